/** Promises 6 to 9: "t a TIME (so for all)", "behind t", "not behind t", "n 1 .. 100", and -1 without. */
public final class TimesTest {
    private static final long LAST = Check.LAST_TIME;

    public static void main(String[] args) {
        firstAndLastTime();
        wrongTimes();
        nextIsBehind();
        lastIsNotBehind();
        laterIsNextAgain();
        wrongCounts();
        isJustThen();
        edgesOfMinutesAndHours();
        edgesOfDaysMonthsYears();
        holidaysAtTheEdges();
        without();
        Check.finish();
    }

    /** "TIMES .. 0 .. 10413791999" */
    private static void firstAndLastTime() {
        CronFinder all = Check.finder("* * * ? * *");
        Check.due("next first", 1L, () -> all.next(0));
        Check.due("next last but one", LAST, () -> all.next(LAST - 1));
        Check.due("next last", -1L, () -> all.next(LAST));
        Check.due("last first", 0L, () -> all.last(0));
        Check.due("last last", LAST, () -> all.last(LAST));
        Check.due("later first", 1L, () -> all.later(0, 1));
        Check.due("later last but one", LAST, () -> all.later(LAST - 1, 1));
        Check.due("later last but one, two", -1L, () -> all.later(LAST - 1, 2));
        Check.due("later last", -1L, () -> all.later(LAST, 1));
        Check.due("later last, 100", -1L, () -> all.later(LAST, 100));
        Check.due("is first", true, () -> all.is(0));
        Check.due("is last", true, () -> all.is(LAST));
    }

    private static void wrongTimes() {
        // some of these would be times if they were cut to 32 bits
        long[] wrong = {-1, -86400, -LAST, LAST + 1, LAST + 86400, 1L << 34, (1L << 40) + 5, -(1L << 32) + 5,
            Integer.MIN_VALUE, Long.MIN_VALUE, Long.MAX_VALUE};
        CronFinder[] finders = {new CronFinder(), Check.finder("* * * * * ?")};
        for (CronFinder finder : finders) {
            for (long t : wrong) {
                Check.throwsDue("next " + t, Check.IAE, () -> finder.next(t));
                Check.throwsDue("last " + t, Check.IAE, () -> finder.last(t));
                Check.throwsDue("later " + t, Check.IAE, () -> finder.later(t, 1));
                Check.throwsDue("is " + t, Check.IAE, () -> finder.is(t));
            }
        }
    }

    /** "The first of the FIRES behind t; -1 without." */
    private static void nextIsBehind() {
        CronFinder finder = Check.finder("30 30 12 15 6 ? 2000-2001");
        long first = Check.time("2000-06-15 12:30:30");
        long second = Check.time("2001-06-15 12:30:30");
        Check.due("before", first, () -> finder.next(first - 1));
        Check.due("at", second, () -> finder.next(first));
        Check.due("behind", second, () -> finder.next(first + 1));
        Check.due("before the last one", second, () -> finder.next(second - 1));
        Check.due("at the last one", -1L, () -> finder.next(second));
        Check.due("behind the last one", -1L, () -> finder.next(second + 1));
        Check.due("from the first time", first, () -> finder.next(0));
        Check.due("from the last time", -1L, () -> finder.next(LAST));
    }

    /** "The last of the FIRES not behind t; -1 without." */
    private static void lastIsNotBehind() {
        CronFinder finder = Check.finder("30 30 12 15 6 ? 2000-2001");
        long first = Check.time("2000-06-15 12:30:30");
        long second = Check.time("2001-06-15 12:30:30");
        Check.due("behind", second, () -> finder.last(second + 1));
        Check.due("at", second, () -> finder.last(second));
        Check.due("before", first, () -> finder.last(second - 1));
        Check.due("at the first one", first, () -> finder.last(first));
        Check.due("before the first one", -1L, () -> finder.last(first - 1));
        Check.due("from the first time", -1L, () -> finder.last(0));
        Check.due("from the last time", second, () -> finder.last(LAST));
    }

    /** "The n-th of the FIRES behind t, n 1 .. 100; -1 without." */
    private static void laterIsNextAgain() {
        CronFinder finder = Check.finder("0 0 0 ? * FRI#5");
        long t = Check.time("2024-01-01");
        for (int n = 1; n <= 100; n++) {
            int count = n;
            long due = finder.next(t);
            Check.due("later " + n, due, () -> finder.later(Check.time("2024-01-01"), count));
            t = due;
        }
        CronFinder hundred = Check.finder("0 0 0 1 1 ? 2000-2099");
        long before = Check.time("1999-12-31");
        Check.due("just 100: the first", "2000-01-01 00:00:00", () -> Check.when(hundred.later(before, 1)));
        Check.due("just 100: the 99th", "2098-01-01 00:00:00", () -> Check.when(hundred.later(before, 99)));
        Check.due("just 100: the 100th", "2099-01-01 00:00:00", () -> Check.when(hundred.later(before, 100)));
        Check.due("just 99: the 99th", "2099-01-01 00:00:00",
                () -> Check.when(hundred.later(Check.time("2000-01-01"), 99)));
        Check.due("just 99: the 100th", -1L, () -> hundred.later(Check.time("2000-01-01"), 100));
    }

    private static void wrongCounts() {
        CronFinder[] finders = {new CronFinder(), Check.finder("* * * * * ?")};
        int[] wrong = {0, -1, -100, 101, 256, Integer.MIN_VALUE, Integer.MAX_VALUE};
        for (CronFinder finder : finders) {
            for (int n : wrong) {
                Check.throwsDue("later 0, " + n, Check.IAE, () -> finder.later(0, n));
                Check.throwsDue("later last, " + n, Check.IAE, () -> finder.later(LAST, n));
                Check.throwsDue("later -1, " + n, Check.IAE, () -> finder.later(-1, n));
            }
        }
    }

    /** "Whether t is one of the FIRES": each field but one is such. */
    private static void isJustThen() {
        CronFinder finder = Check.finder("30 30 12 15 6 ? 2000");
        Check.due("is", true, () -> finder.is(Check.time("2000-06-15 12:30:30")));
        String[] others = {"2000-06-15 12:30:29", "2000-06-15 12:30:31", "2000-06-15 12:29:30", "2000-06-15 12:31:30",
            "2000-06-15 11:30:30", "2000-06-15 13:30:30", "2000-06-14 12:30:30", "2000-06-16 12:30:30",
            "2000-05-15 12:30:30", "2000-07-15 12:30:30", "1999-06-15 12:30:30", "2001-06-15 12:30:30"};
        for (String other : others) {
            Check.due("is " + other, false, () -> finder.is(Check.time(other)));
        }
        // the 15th of June 2000 is a Thursday
        CronFinder weekly = Check.finder("30 30 12 ? 6 THU 2000");
        Check.due("is, weekday", true, () -> weekly.is(Check.time("2000-06-15 12:30:30")));
        Check.due("is, day before", false, () -> weekly.is(Check.time("2000-06-14 12:30:30")));
        Check.due("is, day behind", false, () -> weekly.is(Check.time("2000-06-16 12:30:30")));
        Check.due("is, other month", false, () -> weekly.is(Check.time("2000-07-06 12:30:30")));
    }

    /** A cron that fires once a minute, an hour or a day, seen from both sides of each edge. */
    private static void edgesOfMinutesAndHours() {
        int[] offsets = {0, 1, 59, 60, 119, 3540, 3599, 3600, 3660, 7199, 82800, 86339, 86340, 86398, 86399};
        for (int offset : offsets) {
            int second = offset % 60;
            int minute = offset / 60 % 60;
            int hour = offset / 3600;
            periodic(second + " * * * * ?", 60, offset);
            periodic(second + " " + minute + " * * * ?", 3600, offset);
            periodic(second + " " + minute + " " + hour + " * * ?", 86400, offset);
        }
    }

    private static void periodic(String text, int period, int offset) {
        CronFinder finder = Check.finder(text);
        long[] starts = {60, 3600, 7200, 86400, Check.time("2000-03-01"), Check.time("2001-01-01")};
        for (long start : starts) {
            for (long t = start - 61; t <= start + 61; t += 60) {
                for (long at = Math.max(0, t - 1); at <= t + 1; at++) {
                    long when = at;
                    long since = Math.floorMod(when - offset, (long) period);
                    String what = "'" + text + "' at " + when;
                    Check.due(what + " next", when - since + period, () -> finder.next(when));
                    Check.due(what + " last", when < since ? -1L : when - since, () -> finder.last(when));
                    Check.due(what + " is", since == 0, () -> finder.is(when));
                }
            }
        }
    }

    private static void edgesOfDaysMonthsYears() {
        CronFinder ends = Check.finder("59 59 23 * * ?");
        CronFinder starts = Check.finder("0 0 0 * * ?");
        String[] firsts = {"1970-01-02", "1972-02-29", "1972-03-01", "2000-01-01", "2000-02-29", "2100-03-01",
            "2200-03-01", "2299-12-31"};
        for (String date : firsts) {
            long start = Check.time(date);
            Check.due("start, next before " + date, start, () -> starts.next(start - 1));
            Check.due("start, next at " + date, start + 86400 > LAST ? -1L : start + 86400, () -> starts.next(start));
            Check.due("start, last at " + date, start, () -> starts.last(start));
            Check.due("start, last before " + date, start - 86400, () -> starts.last(start - 1));
            Check.due("end, next before " + date, start - 1, () -> ends.next(start - 2));
            Check.due("end, next at " + date, start + 86399, () -> ends.next(start - 1));
            Check.due("end, last at " + date, start - 1, () -> ends.last(start));
            Check.due("end, last before " + date, start < 2 * 86400 ? -1L : start - 86401, () -> ends.last(start - 2));
        }
    }

    /** "day 0 .. 120529", the first and the last of them left out. */
    private static void holidaysAtTheEdges() {
        CronFinder finder = Check.finder("* * * * * ?");
        finder.holiday(0, true);
        finder.holiday(120529, true);
        Check.due("behind the first day", 86400L, () -> finder.next(0));
        Check.due("not on the first day", -1L, () -> finder.last(86399));
        Check.due("no more", -1L, () -> finder.last(0));
        Check.due("before the last day", LAST - 86400, () -> finder.last(LAST));
        Check.due("not on the last day", -1L, () -> finder.next(LAST - 86400));
        Check.due("the last before it", LAST - 86400, () -> finder.next(LAST - 86401));
        Check.due("is first", false, () -> finder.is(0));
        Check.due("is last", false, () -> finder.is(LAST));
        Check.due("later", 86499L, () -> finder.later(0, 100));
        Check.due("later to the end", LAST - 86400, () -> finder.later(LAST - 86500, 100));
        Check.due("later over the end", -1L, () -> finder.later(LAST - 86499, 100));
    }

    /** No fires at all: no such day, or each of its days a HOLIDAY. */
    private static void without() {
        String[] texts = {"* * * 30 2 ?", "* * * 31W 4 ?", "* * * L-30 9 ?", "* * * ? 2 1#5 2001-2003"};
        for (String text : texts) {
            none(text, Check.finder(text));
        }
        CronFinder left = Check.finder("* * * 1 1 ? 2000");
        left.holiday(Check.day("2000-01-01"), true);
        none("left out", left);
    }

    private static void none(String text, CronFinder finder) {
        Check.due("'" + text + "' next", -1L, () -> finder.next(0));
        Check.due("'" + text + "' last", -1L, () -> finder.last(LAST));
        Check.due("'" + text + "' later 1", -1L, () -> finder.later(0, 1));
        Check.due("'" + text + "' later 100", -1L, () -> finder.later(0, 100));
        Check.due("'" + text + "' is", false, () -> finder.is(Check.time("2000-01-01")));
    }
}
