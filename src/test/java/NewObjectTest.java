/** Promise 1. */
public final class NewObjectTest {
    public static void main(String[] args) {
        CronFinder finder = new CronFinder();
        Check.due("place", -1, finder::place);
        Check.due("next", -1L, () -> finder.next(0));
        Check.due("last", -1L, () -> finder.last(Check.LAST_TIME));
        Check.due("later", -1L, () -> finder.later(0, 1));
        Check.due("is", false, () -> finder.is(0));
        Check.due("no holidays", 0, () -> finder.holiday(0, false));
        Check.due("empty tape", 0, () -> finder.end(0));
        Check.throwsDue("tape has not one byte", Check.IAE, () -> finder.end(1));
        CronFinder other = Check.finder("* * * * * ?");
        other.holiday(3, true);
        Check.due("another object's cron is its own", -1L, () -> finder.next(0));
        Check.due("another object's holidays are its own", 1, () -> finder.holiday(4, true));
        Check.finish();
    }
}
