import java.time.DayOfWeek;
import java.time.LocalDate;
import java.time.YearMonth;
import java.time.temporal.TemporalAdjusters;
import java.util.ArrayList;
import java.util.Collections;
import java.util.List;
import java.util.function.Function;

/** Terms: L, L - N, LW, V W, V L, V # N and what they are where there is no such day, in each month of all years. */
public final class DaysTest {
    /** An object is good for 512 calls. */
    private static final int CALLS = 500;

    public static void main(String[] args) {
        lastDays();
        workdays();
        lastWeekdays();
        ordinals();
        listed();
        calendarOfTheDocument();
        Check.finish();
    }

    /** The day of each month, or null for none; compared forwards and backwards. */
    private static void due(String text, Function<YearMonth, LocalDate> dayOf) {
        List<Long> want = new ArrayList<>();
        for (YearMonth month = YearMonth.of(1970, 1); month.getYear() < 2300; month = month.plusMonths(1)) {
            LocalDate day = dayOf.apply(month);
            if (day != null) {
                want.add(day.toEpochDay() * 86400);
            }
        }
        same("'" + text + "' forwards", want, forwards(text));
        same("'" + text + "' backwards", want, backwards(text));
    }

    private static void same(String what, List<Long> want, List<Long> got) {
        Check.due(what + " count", want.size(), got::size);
        for (int k = 0; k < Math.min(want.size(), got.size()); k++) {
            if (!want.get(k).equals(got.get(k))) {
                String due = Check.when(want.get(k));
                String instead = Check.when(got.get(k));
                Check.due(what, due, () -> instead);
                return;
            }
        }
    }

    private static List<Long> forwards(String text) {
        List<Long> fires = new ArrayList<>();
        CronFinder finder = Check.finder(text);
        if (finder.is(0)) {
            fires.add(0L);
        }
        long t = 0;
        for (int calls = 1; t >= 0; calls++) {
            if (calls % CALLS == 0) {
                finder = Check.finder(text);
            }
            t = finder.next(t);
            if (t >= 0) {
                fires.add(t);
            }
        }
        return fires;
    }

    private static List<Long> backwards(String text) {
        List<Long> fires = new ArrayList<>();
        CronFinder finder = Check.finder(text);
        long t = Check.LAST_TIME;
        for (int calls = 1; t >= 0; calls++) {
            if (calls % CALLS == 0) {
                finder = Check.finder(text);
            }
            t = finder.last(t);
            if (t >= 0) {
                fires.add(t);
                t--;
            }
        }
        Collections.reverse(fires);
        return fires;
    }

    /** "L the last one of the month, L - N so many before it (none if there is no such day)" */
    private static void lastDays() {
        due("0 0 0 L * ?", YearMonth::atEndOfMonth);
        for (int n = 1; n <= 30; n++) {
            int before = n;
            due("0 0 0 L-" + n + " * ?",
                    month -> before < month.lengthOfMonth() ? month.atEndOfMonth().minusDays(before) : null);
        }
    }

    /** "LW the last one from Monday to Friday, V W the one from Monday to Friday nearest to V in that month" */
    private static void workdays() {
        due("0 0 0 LW * ?", month -> {
            LocalDate day = month.atEndOfMonth();
            while (!isWorkday(day)) {
                day = day.minusDays(1);
            }
            return day;
        });
        for (int v = 1; v <= 31; v++) {
            int aim = v;
            due("0 0 0 " + v + "W * ?", month -> aim <= month.lengthOfMonth() ? workday(month.atDay(aim)) : null);
        }
    }

    private static boolean isWorkday(LocalDate day) {
        return day.getDayOfWeek() != DayOfWeek.SATURDAY && day.getDayOfWeek() != DayOfWeek.SUNDAY;
    }

    private static LocalDate workday(LocalDate aim) {
        boolean sunday = aim.getDayOfWeek() == DayOfWeek.SUNDAY;
        int[] distances = sunday ? new int[] {1, -2} : new int[] {-1, 2};
        for (int distance : distances) {
            LocalDate day = aim.plusDays(distance);
            if (!isWorkday(aim) && day.getMonth() == aim.getMonth()) {
                return day;
            }
        }
        return aim;
    }

    /** "for weekday: L Saturday, V L the last such one of the month" */
    private static void lastWeekdays() {
        for (int v = 1; v <= 7; v++) {
            DayOfWeek weekday = DayOfWeek.SUNDAY.plus(v - 1);
            due("0 0 0 ? * " + v + "L", month -> month.atDay(1).with(TemporalAdjusters.lastInMonth(weekday)));
        }
        List<Long> saturdays = new ArrayList<>();
        for (long day = 2; day <= 120529; day += 7) {
            saturdays.add(day * 86400);
        }
        same("L forwards", saturdays, forwards("0 0 0 ? * L"));
        same("L backwards", saturdays, backwards("0 0 0 ? * L"));
    }

    /** "V # N (N 1 .. 5) the N-th (none if there is no such one)" */
    private static void ordinals() {
        for (int v = 1; v <= 7; v++) {
            DayOfWeek weekday = DayOfWeek.SUNDAY.plus(v - 1);
            for (int n = 1; n <= 5; n++) {
                int ordinal = n;
                due("0 0 0 ? * " + v + "#" + n, month -> {
                    LocalDate first = month.atDay(1).with(TemporalAdjusters.firstInMonth(weekday));
                    LocalDate day = first.plusWeeks(ordinal - 1);
                    return day.getMonth() == month.getMonth() ? day : null;
                });
            }
        }
    }

    /** A day that a month has not is not in it. */
    private static void listed() {
        for (int v = 28; v <= 31; v++) {
            int day = v;
            due("0 0 0 " + v + " * ?", month -> day <= month.lengthOfMonth() ? month.atDay(day) : null);
        }
        due("0 0 0 29 2 ?", month -> month.getMonthValue() == 2 && month.isLeapYear() ? month.atDay(29) : null);
        due("0 0 0 29-1/2 2 ? 2000,2100",
                month -> month.equals(YearMonth.of(2000, 2)) ? month.atDay(29) : null);
        due("0 0 0 30-31 2 ?", month -> null);
        due("0 0 0 31 2,4,6,9,11 ?", month -> null);
        due("0 0 0 L-29 2 ?", month -> null);
        due("0 0 0 30W 2 ?", month -> null);
    }

    /** "DAYS are numbered from 0 for the first of January 1970, a Thursday", "the end of 2299" */
    private static void calendarOfTheDocument() {
        CronFinder first = Check.finder("0 0 0 ? 1 5#1 1970");
        Check.due("the first day is a Thursday", true, () -> first.is(0));
        CronFinder last = Check.finder("59 59 23 31 12 ? 2299");
        Check.due("the last time", 10413791999L, () -> last.last(10413791999L));
        CronFinder sunday = Check.finder("0 0 0 ? 12 1L 2299");
        Check.due("the last day is a Sunday", 120529 * 86400L, () -> sunday.next(0));
    }
}
