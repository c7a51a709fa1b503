/** Promise 2. */
public final class FeedTest {
    public static void main(String[] args) {
        answersLength();
        putsHighestByteFirst();
        refusesBeyondTheLimit();
        Check.finish();
    }

    private static void answersLength() {
        CronFinder finder = new CronFinder();
        for (int length = 20; length <= 400; length += 20) {
            Check.due("feed", length, () -> finder.feed(-1, Integer.MIN_VALUE, 0, 1, Integer.MAX_VALUE));
        }
    }

    private static void putsHighestByteFirst() {
        CronFinder finder = new CronFinder();
        // "1 2 3 4 5 ? " and "1970" in the fourth int, "-198" in the fifth
        finder.feed(0x31203220, 0x33203420, 0x35203F20, 0x31393730, 0x2D313938);
        finder.feed(0x30000000, 0, 0, 0, 0);
        finder.end(21);
        Check.due("cron", "ok", () -> {
            finder.cron();
            return "ok";
        });
        Check.due("next", "1970-05-04 03:02:01", () -> Check.when(finder.next(0)));
        Check.due("last", "1980-05-04 03:02:01", () -> Check.when(finder.last(Check.LAST_TIME)));
    }

    private static void refusesBeyondTheLimit() {
        CronFinder finder = new CronFinder();
        Check.type(finder, "* * * * * ?" + " ".repeat(370));
        Check.throwsDue("feed on 381", Check.IOOBE, () -> finder.feed(0, 0, 0, 0, 0));
        Check.due("nothing was changed", 381, () -> finder.end(381));
        Check.due("end", 380, () -> finder.end(380));
        Check.due("feed on 380", 400, () -> finder.feed(0x20202020, 0x20202020, 0x20202020, 0x20202020, 0x20202031));
        Check.throwsDue("feed on 400", Check.IOOBE, () -> finder.feed(0, 0, 0, 0, 0));
        Check.throwsDue("all 400 bytes are read", Check.UOE, () -> {
            finder.cron();
            return "ok";
        });
        Check.due("place of the last byte", 399, finder::place);
        Check.due("feed on the empty tape", 20, () -> finder.feed(0, 0, 0, 0, 0));
    }
}
