/** Promise 3. */
public final class EndTest {
    public static void main(String[] args) {
        CronFinder finder = new CronFinder();
        Check.throwsDue("end -1", Check.IAE, () -> finder.end(-1));
        Check.throwsDue("end lowest", Check.IAE, () -> finder.end(Integer.MIN_VALUE));
        Check.due("end 0 of 0", 0, () -> finder.end(0));
        Check.type(finder, "0 0 0 1 1 ? 2000,2001");
        Check.throwsDue("end behind the tape", Check.IAE, () -> finder.end(22));
        Check.throwsDue("end highest", Check.IAE, () -> finder.end(Integer.MAX_VALUE));
        Check.due("end at the length", 21, () -> finder.end(21));
        Check.due("end keeps the first", 16, () -> finder.end(16));
        Check.throwsDue("what was cut off is gone", Check.IAE, () -> finder.end(17));
        Check.due("cron reads what was kept", "ok", () -> Check.tell(finder, ""));
        Check.due("last", "2000-01-01 00:00:00", () -> Check.when(finder.last(Check.LAST_TIME)));
        Check.throwsDue("cron left the tape empty", Check.IAE, () -> finder.end(1));
        Check.finish();
    }
}
