import java.util.Random;
import java.util.TreeSet;

/** Promise 5, and what holidays mean for the others. */
public final class HolidayTest {
    public static void main(String[] args) {
        refusesWrongDays();
        counts();
        refusesTooMany();
        comeAndGo();
        fullAndOneLess();
        firstAndLastDay();
        leavesDaysOut();
        staysOverCrons();
        doesNotMoveWorkdays();
        Check.finish();
    }

    private static void refusesWrongDays() {
        CronFinder finder = new CronFinder();
        Check.throwsDue("day -1", Check.IAE, () -> finder.holiday(-1, true));
        Check.throwsDue("day 120530", Check.IAE, () -> finder.holiday(120530, true));
        Check.throwsDue("day -1, not", Check.IAE, () -> finder.holiday(-1, false));
        Check.throwsDue("day 120530, not", Check.IAE, () -> finder.holiday(120530, false));
        Check.throwsDue("lowest", Check.IAE, () -> finder.holiday(Integer.MIN_VALUE, true));
        Check.throwsDue("highest", Check.IAE, () -> finder.holiday(Integer.MAX_VALUE, true));
        Check.due("the first day", 1, () -> finder.holiday(0, true));
        Check.due("the last day", 2, () -> finder.holiday(120529, true));
    }

    private static void counts() {
        CronFinder finder = new CronFinder();
        Check.due("one", 1, () -> finder.holiday(10, true));
        Check.due("the same", 1, () -> finder.holiday(10, true));
        Check.due("one below", 2, () -> finder.holiday(5, true));
        Check.due("one between", 3, () -> finder.holiday(7, true));
        Check.due("none there", 3, () -> finder.holiday(8, false));
        Check.due("not any more", 2, () -> finder.holiday(5, false));
        Check.due("not twice", 2, () -> finder.holiday(5, false));
        Check.due("the next", 1, () -> finder.holiday(10, false));
        Check.due("the last", 0, () -> finder.holiday(7, false));
        Check.due("none", 0, () -> finder.holiday(7, false));
    }

    private static void refusesTooMany() {
        CronFinder finder = Check.finder("0 0 0 * * ?");
        for (int k = 1; k <= 200; k++) {
            int day = k * 7919 % 201;
            Check.due("holiday " + day, k, () -> finder.holiday(day, true));
        }
        Check.throwsDue("the 201st", Check.IOOBE, () -> finder.holiday(500, true));
        Check.due("it was not taken", true, () -> finder.is(500 * 86400L));
        Check.throwsDue("a wrong day comes first", Check.IAE, () -> finder.holiday(-1, true));
        Check.due("one that is there", 200, () -> finder.holiday(1, true));
        Check.due("one that is not there", 200, () -> finder.holiday(500, false));
        Check.due("all are left out", 201 * 86400L, () -> finder.next(0));
        Check.due("one less", 199, () -> finder.holiday(100, false));
        Check.due("it fires again", 100 * 86400L, () -> finder.next(0));
        Check.due("one more", 200, () -> finder.holiday(500, true));
    }

    /** "That DAY is a HOLIDAY, or not any more. Answers how many there are", in every order. */
    private static void comeAndGo() {
        Random random = new Random(5);
        for (int objects = 0; objects < 40; objects++) {
            CronFinder finder = Check.finder("0 0 0 * * ?");
            TreeSet<Integer> model = new TreeSet<>();
            for (int k = 0; k < 220; k++) {
                int day = random.nextInt(objects + 2);
                boolean yes = random.nextBoolean();
                if (yes) {
                    model.add(day);
                } else {
                    model.remove(day);
                }
                Check.due("holiday", model.size(), () -> finder.holiday(day, yes));
                Check.due("is " + day, !yes, () -> finder.is(day * 86400L));
            }
            for (int day = 0; day < objects + 2; day++) {
                long t = day * 86400L;
                Check.due("is " + t, !model.contains(day), () -> finder.is(t));
            }
        }
    }

    /** "if there would be more than 200": 200 stand, and one that goes makes room for one. */
    private static void fullAndOneLess() {
        CronFinder finder = Check.finder("0 0 0 * * ?");
        for (int day = 0; day < 199; day++) {
            finder.holiday(120529 - day, true);
        }
        Check.due("the 200th", 200, () -> finder.holiday(120529 - 199, true));
        Check.throwsDue("the 201st", Check.IOOBE, () -> finder.holiday(0, true));
        Check.due("all are left out", (120529 - 200) * 86400L, () -> finder.last(Check.LAST_TIME));
        for (int day = 120529; day > 120329; day -= 40) {
            int gone = day;
            Check.due("again " + day, 200, () -> finder.holiday(gone, true));
            Check.due("one goes", 199, () -> finder.holiday(gone, false));
            Check.due("it goes once", 199, () -> finder.holiday(gone, false));
            Check.due("one comes", 200, () -> finder.holiday(gone - 1000, true));
            Check.throwsDue("it does not come again", Check.IOOBE, () -> finder.holiday(gone, true));
            Check.due("it fires", gone * 86400L, () -> finder.next(gone * 86400L - 1));
        }
    }

    /** "day 0 .. 120529" */
    private static void firstAndLastDay() {
        CronFinder finder = Check.finder("0 0 0 * * ?");
        Check.due("first", 1, () -> finder.holiday(0, true));
        Check.due("is first", false, () -> finder.is(0));
        Check.due("is second", true, () -> finder.is(86400));
        Check.due("last", 2, () -> finder.holiday(120529, true));
        Check.due("is last", false, () -> finder.is(120529 * 86400L));
        Check.due("is last but one", true, () -> finder.is(120528 * 86400L));
        Check.due("first, not any more", 1, () -> finder.holiday(0, false));
        Check.due("last, not any more", 0, () -> finder.holiday(120529, false));
        Check.due("is first again", true, () -> finder.is(0));
        Check.due("is last again", true, () -> finder.is(120529 * 86400L));
    }

    private static void leavesDaysOut() {
        CronFinder finder = Check.finder("0 0 8,20 * * ?");
        finder.holiday(Check.day("2024-02-28"), true);
        finder.holiday(Check.day("2024-02-29"), true);
        long before = Check.time("2024-02-27 20:00:00");
        long behind = Check.time("2024-03-01 08:00:00");
        Check.due("next", behind, () -> finder.next(before));
        Check.due("next from within", behind, () -> finder.next(Check.time("2024-02-28 09:00:00")));
        Check.due("last", before, () -> finder.last(behind - 1));
        Check.due("last from within", before, () -> finder.last(Check.time("2024-02-29 21:00:00")));
        Check.due("later", behind + 43200, () -> finder.later(before, 2));
        Check.due("is", false, () -> finder.is(Check.time("2024-02-29 08:00:00")));
        finder.holiday(Check.day("2024-02-29"), false);
        Check.due("is again", true, () -> finder.is(Check.time("2024-02-29 08:00:00")));
        Check.due("next again", "2024-02-29 08:00:00", () -> Check.when(finder.next(before)));
        Check.due("last again", "2024-02-29 20:00:00", () -> Check.when(finder.last(behind - 1)));
    }

    private static void staysOverCrons() {
        CronFinder finder = new CronFinder();
        finder.holiday(0, true);
        Check.due("cron", "ok", () -> Check.tell(finder, "0 0 0 * * ?"));
        Check.due("last", -1L, () -> finder.last(86399));
        Check.due("a broken one", "throws.UnsupportedOperationException", () -> Check.tell(finder, "x"));
        Check.due("is", false, () -> finder.is(0));
        Check.due("is, the day behind", true, () -> finder.is(86400));
    }

    private static void doesNotMoveWorkdays() {
        CronFinder finder = Check.finder("0 0 0 LW * ?");
        finder.holiday(Check.day("2024-05-31"), true);
        Check.due("next", "2024-06-28 00:00:00", () -> Check.when(finder.next(Check.time("2024-05-01"))));
    }
}
