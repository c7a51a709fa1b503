/** Promise 10: "PLACE of the latest cron, -1 if it told none, or before." */
public final class PlaceTest {
    public static void main(String[] args) {
        before();
        latest();
        staysOverOtherCalls();
        firstAndLast();
        Check.finish();
    }

    private static void before() {
        CronFinder finder = new CronFinder();
        Check.due("new", -1, finder::place);
        Check.type(finder, "broken, but not read");
        Check.due("not read yet", -1, finder::place);
        finder.end(3);
        Check.due("still not read", -1, finder::place);
        finder.holiday(0, true);
        finder.next(0);
        Check.due("other calls", -1, finder::place);
    }

    private static void tell(CronFinder finder, String text, int place) {
        Check.due("cron '" + text + "'", place < 0 ? "ok" : "throws." + Check.UOE, () -> Check.tell(finder, text));
        Check.due("place of '" + text + "'", place, finder::place);
        Check.due("place of '" + text + "' again", place, finder::place);
    }

    private static void latest() {
        CronFinder finder = new CronFinder();
        tell(finder, "* * * * * ?", -1);
        tell(finder, "* * * x", 6);
        tell(finder, "* x", 2);
        tell(finder, "* * * * * ", 10);
        tell(finder, "* * * * * ?", -1);
        tell(finder, "", 0);
        tell(finder, "* * * ? * * 1970", -1);
        tell(finder, "x", 0);
    }

    private static void staysOverOtherCalls() {
        CronFinder finder = new CronFinder();
        tell(finder, "1,2,3,x", 6);
        Check.type(finder, "0 0 0 L * ?");
        Check.due("tape", 6, finder::place);
        Check.throwsDue("end", Check.IAE, () -> finder.end(12));
        Check.throwsDue("next", Check.IAE, () -> finder.next(-1));
        Check.throwsDue("holiday", Check.IAE, () -> finder.holiday(-1, true));
        finder.later(0, 1);
        finder.is(0);
        finder.last(0);
        finder.holiday(0, true);
        Check.due("refused and other calls", 6, finder::place);
        Check.due("cron", "ok", () -> Check.read(finder));
        Check.due("a good one", -1, finder::place);
    }

    private static void firstAndLast() {
        CronFinder finder = new CronFinder();
        tell(finder, "?" + "1".repeat(399), 0);
        tell(finder, "* * * * * ?" + " ".repeat(388) + "x", 399);
        tell(finder, "* * * * * ?" + " ".repeat(389), 400);
        tell(finder, "* * * * * ?" + " ".repeat(388) + "*", -1);
    }
}
