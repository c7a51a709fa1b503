/** Promises 6 to 9 with answers written out by hand. */
public final class FiresTest {
    public static void main(String[] args) {
        refusesWrongNumbers();
        edgesOfTime();
        timesOfDay();
        wrapsAndSteps();
        lastDays();
        workdays();
        weekdays();
        leapYears();
        years();
        laterCounts();
        Check.finish();
    }

    /** The fires behind the beginning of a date, one after the other. */
    private static void follow(String text, String from, String... want) {
        CronFinder finder = Check.finder(text);
        long t = Check.time(from);
        for (int k = 0; k < want.length; k++) {
            long before = t;
            int n = k + 1;
            String due = want[k].length() == 10 ? want[k] + " 00:00:00" : want[k];
            Check.due("'" + text + "' next of " + Check.when(before), due, () -> Check.when(finder.next(before)));
            Check.due("'" + text + "' later " + n, due, () -> Check.when(finder.later(Check.time(from), n)));
            if (due.equals("none")) {
                return;
            }
            long fire = Check.time(due);
            Check.due("'" + text + "' is " + due, true, () -> finder.is(fire));
            Check.due("'" + text + "' last of " + due, fire, () -> finder.last(fire));
            if (k > 0) {
                Check.due("'" + text + "' last before " + due, before, () -> finder.last(fire - 1));
                Check.due("'" + text + "' is before " + due, fire - 1 == before, () -> finder.is(fire - 1));
            }
            t = fire;
        }
    }

    private static void refusesWrongNumbers() {
        CronFinder finder = new CronFinder();
        long[] wrong = {-1, Check.LAST_TIME + 1, Long.MIN_VALUE, Long.MAX_VALUE, 1L << 40};
        for (long t : wrong) {
            Check.throwsDue("next " + t, Check.IAE, () -> finder.next(t));
            Check.throwsDue("last " + t, Check.IAE, () -> finder.last(t));
            Check.throwsDue("later " + t, Check.IAE, () -> finder.later(t, 1));
            Check.throwsDue("is " + t, Check.IAE, () -> finder.is(t));
        }
        int[] counts = {0, -1, 101, Integer.MIN_VALUE, Integer.MAX_VALUE};
        for (int n : counts) {
            Check.throwsDue("later 0, " + n, Check.IAE, () -> finder.later(0, n));
        }
    }

    private static void edgesOfTime() {
        CronFinder all = Check.finder("* * * * * ?");
        Check.due("next 0", 1L, () -> all.next(0));
        Check.due("last 0", 0L, () -> all.last(0));
        Check.due("is 0", true, () -> all.is(0));
        Check.due("next of the last but one", Check.LAST_TIME, () -> all.next(Check.LAST_TIME - 1));
        Check.due("next of the last", -1L, () -> all.next(Check.LAST_TIME));
        Check.due("last of the last", Check.LAST_TIME, () -> all.last(Check.LAST_TIME));
        Check.due("is the last", true, () -> all.is(Check.LAST_TIME));
        Check.due("later 100", 100L, () -> all.later(0, 100));
        Check.due("later to the end", Check.LAST_TIME, () -> all.later(Check.LAST_TIME - 100, 100));
        Check.due("later over the end", -1L, () -> all.later(Check.LAST_TIME - 99, 100));
        CronFinder first = Check.finder("1 0 0 1 1 ? 1970");
        Check.due("before the first", -1L, () -> first.last(0));
        Check.due("the first", 1L, () -> first.last(Check.LAST_TIME));
        Check.due("behind the first", -1L, () -> first.next(1));
        CronFinder final2299 = Check.finder("59 59 23 31 12 ? 2299");
        Check.due("only the last time", Check.LAST_TIME, () -> final2299.next(0));
        Check.due("not before it", -1L, () -> final2299.last(Check.LAST_TIME - 1));
    }

    private static void timesOfDay() {
        follow("0 30 2 * * ?", "2024-02-28", "2024-02-28 02:30:00", "2024-02-29 02:30:00", "2024-03-01 02:30:00");
        follow("15,45 0,59 0,23 * * ?", "2023-12-31", "2023-12-31 00:00:15", "2023-12-31 00:00:45",
                "2023-12-31 00:59:15", "2023-12-31 00:59:45", "2023-12-31 23:00:15", "2023-12-31 23:00:45",
                "2023-12-31 23:59:15", "2023-12-31 23:59:45", "2024-01-01 00:00:15");
        follow("59 59 23 * * ?", "1999-12-30", "1999-12-30 23:59:59", "1999-12-31 23:59:59", "2000-01-01 23:59:59");
        follow("30 10,20 5 1 1 ? 2001", "2001-01-01 05:15:00", "2001-01-01 05:20:30", "none");
        follow("0 5-7 0 1 1 ? 2001", "2001-01-01", "2001-01-01 00:05:00", "2001-01-01 00:06:00",
                "2001-01-01 00:07:00", "none");
        follow("0 0 0 * * ?", "1999-12-30", "1999-12-31", "2000-01-01", "2000-01-02");
    }

    private static void wrapsAndSteps() {
        follow("0 0 22-3/2 1 1 ? 2001", "2001-01-01", "2001-01-01 02:00:00", "2001-01-01 22:00:00", "none");
        follow("0 0 21-3/2 1 1 ? 2001", "2000-01-01", "2001-01-01 01:00:00", "2001-01-01 03:00:00",
                "2001-01-01 21:00:00", "2001-01-01 23:00:00", "none");
        follow("58-1/3 0 0 1 1 ? 2001", "2000-01-01", "2001-01-01 00:00:01", "2001-01-01 00:00:58", "none");
        follow("*/25 0 0 1 1 ? 2001", "2000-01-01", "2001-01-01 00:00:00", "2001-01-01 00:00:25",
                "2001-01-01 00:00:50", "none");
        follow("7/25 0 0 1 1 ? 2001", "2000-01-01", "2001-01-01 00:00:07", "2001-01-01 00:00:32",
                "2001-01-01 00:00:57", "none");
        follow("10-40/15 0 0 1 1 ? 2001", "2000-01-01", "2001-01-01 00:00:10", "2001-01-01 00:00:25",
                "2001-01-01 00:00:40", "none");
        follow("5-5/2 0 0 1 1 ? 2001", "2000-01-01", "2001-01-01 00:00:05", "none");
        follow("7/99 0 0 1 1 ? 2001", "2000-01-01", "2001-01-01 00:00:07", "none");
        follow("0 0 0 30-2/2 1 ? 2001", "2000-01-01", "2001-01-01", "2001-01-30", "none");
        follow("0 0 0 29-2/2 1 ? 2001", "2000-01-01", "2001-01-02", "2001-01-29", "2001-01-31", "none");
        follow("0 0 0 */15 2 ? 2001", "2000-01-01", "2001-02-01", "2001-02-16", "none");
        follow("0 0 0 1 NOV-2/2 ? 2001", "2000-01-01", "2001-01-01", "2001-11-01", "none");
        follow("0 0 0 1 5,DEC,*/6 ? 2001", "2000-01-01", "2001-01-01", "2001-05-01", "2001-07-01", "2001-12-01",
                "none");
        follow("0 0 0 ? 1 FRI-MON/2 2001", "2000-12-31", "2001-01-05", "2001-01-07", "2001-01-12", "2001-01-14");
        follow("0 0 0 ? 1 4/2 2001", "2000-12-31", "2001-01-03", "2001-01-05", "2001-01-10");
        follow("0 0 0 *,5 1 ? 2001", "2000-12-31", "2001-01-01", "2001-01-02", "2001-01-03");
    }

    private static void lastDays() {
        follow("0 0 0 L * ?", "2023-12-31", "2024-01-31", "2024-02-29", "2024-03-31", "2024-04-30");
        follow("0 0 0 L-1 2 ?", "2023-01-01", "2023-02-27", "2024-02-28");
        follow("0 0 0 L-28 2 ?", "2023-01-01", "2024-02-01", "2028-02-01");
        follow("0 0 0 L-29 2 ?", "2023-01-01", "none");
        follow("0 0 0 L-30 * ?", "2023-01-01", "2023-03-01", "2023-05-01", "2023-07-01", "2023-08-01", "2023-10-01",
                "2023-12-01", "2024-01-01", "2024-03-01");
        follow("0 0 0 L-29 * ?", "2024-01-02", "2024-03-02", "2024-04-01", "2024-05-02");
        follow("0 0 0 LW * ?", "2024-01-01", "2024-01-31", "2024-02-29", "2024-03-29", "2024-04-30", "2024-05-31",
                "2024-06-28", "2024-07-31", "2024-08-30");
    }

    private static void workdays() {
        // the first of June 2024 is a Saturday, the first of September 2024 a Sunday
        follow("0 0 0 1W 6-9 ? 2024", "2024-01-01", "2024-06-03", "2024-07-01", "2024-08-01", "2024-09-02", "none");
        follow("0 0 0 15W 6-9 ? 2024", "2024-01-01", "2024-06-14", "2024-07-15", "2024-08-15", "2024-09-16", "none");
        // the 31st of March 2024 is a Sunday, of August a Saturday
        follow("0 0 0 31W 2-8 ? 2024", "2024-01-01", "2024-03-29", "2024-05-31", "2024-07-31", "2024-08-30", "none");
        // the 30th of July 2023 is a Sunday: the day behind is still in the month
        follow("0 0 0 30W 7 ? 2023", "2023-01-01", "2023-07-31", "none");
        // the 30th of June 2024 is a Sunday at the month's end, of March a Saturday, behind which one day stands
        follow("0 0 0 30W 1-6 ? 2024", "2024-01-01", "2024-01-30", "2024-03-29", "2024-04-30", "2024-05-30",
                "2024-06-28", "none");
        follow("0 0 0 29W 2 ? 2096-2110", "2024-01-01", "2096-02-29", "2104-02-29", "2108-02-29", "none");
        // the second of September 2023 is a Saturday: the day before is still in the month
        follow("0 0 0 2W 9 ? 2023", "2023-01-01", "2023-09-01", "none");
        follow("0 0 0 2W 6 ? 2024-2025", "2024-01-01", "2024-06-03", "2025-06-02", "none");
    }

    private static void weekdays() {
        follow("0 0 0 ? * L", "1970-01-01", "1970-01-03", "1970-01-10");
        follow("0 0 0 ? * 7", "1970-01-01", "1970-01-03", "1970-01-10");
        follow("0 0 0 ? * 1", "1970-01-01", "1970-01-04", "1970-01-11");
        follow("0 0 0 ? * THU", "1970-01-01", "1970-01-08", "1970-01-15");
        follow("0 0 0 ? * 2-6", "2024-02-28", "2024-02-29", "2024-03-01", "2024-03-04");
        follow("0 0 0 ? * FRIL", "2024-01-01", "2024-01-26", "2024-02-23", "2024-03-29");
        follow("0 0 0 ? * 5L", "2024-01-01", "2024-01-25", "2024-02-29", "2024-03-28");
        follow("0 0 0 ? 3 1L 2024", "2024-01-01", "2024-03-31", "none");
        follow("0 0 0 ? * 6#3", "2024-01-01", "2024-01-19", "2024-02-16", "2024-03-15");
        follow("0 0 0 ? * THU#5", "2024-01-01", "2024-02-29", "2024-05-30", "2024-08-29");
        follow("0 0 0 ? * MON#1", "2023-12-31", "2024-01-01", "2024-02-05", "2024-03-04");
        follow("0 0 0 ? 2 SUN#5", "1970-01-01", "1976-02-29", "2004-02-29", "2032-02-29");
        follow("0 0 0 ? 2 * 2024", "2024-02-28", "2024-02-29", "none");
    }

    private static void leapYears() {
        follow("0 0 0 29 2 ?", "1970-01-01", "1972-02-29", "1976-02-29");
        follow("0 0 0 29 2 ?", "1996-03-01", "2000-02-29", "2004-02-29");
        follow("0 0 0 29 2 ?", "2096-01-01", "2096-02-29", "2104-02-29");
        follow("0 0 0 29 2 ?", "2196-03-01", "2204-02-29");
        follow("0 0 0 29 2 ?", "2296-02-28", "2296-02-29", "none");
        follow("0 0 0 30 2 ?", "1970-01-01", "none");
        follow("0 0 0 31 2,4,6,9,11 ?", "1970-01-01", "none");
        follow("0 0 0 1 3 ?", "2100-02-28", "2100-03-01", "2101-03-01");
        CronFinder never = Check.finder("0 0 0 31 2,4,6,9,11 ?");
        Check.due("never", -1L, () -> never.last(Check.LAST_TIME));
    }

    private static void years() {
        follow("0 0 0 1 1 ? 1970,2299", "1970-01-01", "2299-01-01", "none");
        follow("0 0 0 1 1 ? 2290/4", "1970-01-01", "2290-01-01", "2294-01-01", "2298-01-01", "none");
        follow("0 0 0 1 1 ? */99", "1970-01-01", "2069-01-01", "2168-01-01", "2267-01-01", "none");
        follow("0 0 0 1 1 ? 2000-2005/3", "1970-01-01", "2000-01-01", "2003-01-01", "none");
        follow("0 0 0 1 1 ? 2000-2000", "1970-01-01", "2000-01-01", "none");
    }

    private static void laterCounts() {
        CronFinder finder = Check.finder("0 0 0 29 2 ?");
        Check.due("the last leap day", "2296-02-29 00:00:00", () -> Check.when(finder.later(0, 80)));
        Check.due("one too many", -1L, () -> finder.later(0, 81));
        Check.due("far too many", -1L, () -> finder.later(0, 100));
        Check.due("behind, not at", "1976-02-29 00:00:00",
                () -> Check.when(finder.later(Check.time("1972-02-29"), 1)));
        Check.due("is one second late", false, () -> finder.is(Check.time("1972-02-29 00:00:01")));
        Check.due("is one day late", false, () -> finder.is(Check.time("1972-03-01")));
    }
}
