/** Promise 3: "The TAPE keeps its first n bytes, n 0 .. its length. Answers n." */
public final class EndTest {
    public static void main(String[] args) {
        emptyTape();
        keepsTheFirst();
        eachLength();
        Check.finish();
    }

    private static void emptyTape() {
        CronFinder finder = new CronFinder();
        Check.throwsDue("end -1", Check.IAE, () -> finder.end(-1));
        Check.throwsDue("end lowest", Check.IAE, () -> finder.end(Integer.MIN_VALUE));
        Check.throwsDue("end 1 of 0", Check.IAE, () -> finder.end(1));
        Check.throwsDue("end highest", Check.IAE, () -> finder.end(Integer.MAX_VALUE));
        Check.due("end 0 of 0", 0, () -> finder.end(0));
        Check.due("and once more", 0, () -> finder.end(0));
    }

    private static void keepsTheFirst() {
        CronFinder finder = new CronFinder();
        Check.type(finder, "0 0 0 1 1 ? 2000,2001");
        Check.throwsDue("end -1", Check.IAE, () -> finder.end(-1));
        Check.throwsDue("end behind the tape", Check.IAE, () -> finder.end(22));
        Check.throwsDue("end highest", Check.IAE, () -> finder.end(Integer.MAX_VALUE));
        Check.due("end at the length", 21, () -> finder.end(21));
        Check.due("end keeps the first", 16, () -> finder.end(16));
        Check.throwsDue("what was cut off is gone", Check.IAE, () -> finder.end(17));
        Check.due("cron reads what was kept", "ok", () -> Check.read(finder));
        Check.due("last", "2000-01-01 00:00:00", () -> Check.when(finder.last(Check.LAST_TIME)));
        Check.throwsDue("cron left the tape empty", Check.IAE, () -> finder.end(1));
        Check.due("end 0", 0, () -> finder.end(0));
    }

    private static void eachLength() {
        for (int n = 0; n <= 400; n++) {
            CronFinder finder = new CronFinder();
            for (int feeds = 0; feeds < 20; feeds++) {
                finder.feed(0x312C312C, 0x312C312C, 0x312C312C, 0x312C312C, 0x312C312C);
            }
            int length = n;
            Check.throwsDue("end 401", Check.IAE, () -> finder.end(401));
            Check.due("end " + n, n, () -> finder.end(length));
            Check.throwsDue("end " + n + " and one", Check.IAE, () -> finder.end(length + 1));
            Check.throwsDue("end -1", Check.IAE, () -> finder.end(-1));
            Check.due("end " + n + " again", n, () -> finder.end(length));
            // "1,1,1," and so on ends too soon wherever it ends
            Check.throwsDue("broken", Check.UOE, () -> Check.read(finder));
            Check.due("its length is the place", n, finder::place);
        }
    }
}
