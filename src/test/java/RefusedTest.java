import java.util.function.Consumer;

/**
 * Terms: "What is thrown, in this order: IllegalArgumentException: a number out of range; then as the call says. A call
 * that throws changes nothing, but as said."
 */
public final class RefusedTest {
    private static final String CRON = "0 0 12 ? 3 6#3 2000/2";
    private static final String TAPE = "30 15 7 LW 4-5 ? 2001-2002";
    private static final long BEYOND = Check.LAST_TIME + 1;

    public static void main(String[] args) {
        wrongNumbers();
        fullTape();
        fullHolidays();
        brokenCron();
        order();
        Check.finish();
    }

    /** With a cron that was told, a place of a broken one behind it, three holidays, and bytes on the tape. */
    private static CronFinder prepared() {
        CronFinder finder = Check.finder(CRON);
        Check.due("a broken one", "throws." + Check.UOE, () -> Check.tell(finder, "0 0 0 LX"));
        finder.holiday(0, true);
        finder.holiday(Check.day("2002-03-15"), true);
        finder.holiday(120529, true);
        Check.type(finder, TAPE);
        return finder;
    }

    private static void refused(String what, String exception, Consumer<CronFinder> call) {
        CronFinder finder = prepared();
        Check.throwsDue(what, exception, () -> {
            call.accept(finder);
            return "nothing";
        });
        cronAndHolidaysAreAsBefore(what, finder);
        Check.due(what + ": place", 7, finder::place);
        tapeIsAsBefore(what, finder);
    }

    private static void cronAndHolidaysAreAsBefore(String what, CronFinder finder) {
        Check.due(what + ": next", "2000-03-17 12:00:00", () -> Check.when(finder.next(0)));
        Check.due(what + ": later", "2004-03-19 12:00:00", () -> Check.when(finder.later(0, 2)));
        Check.due(what + ": last", "2298-03-18 12:00:00", () -> Check.when(finder.last(Check.LAST_TIME)));
        Check.due(what + ": holidays", 3, () -> finder.holiday(1, false));
        Check.due(what + ": one of them", 3, () -> finder.holiday(120529, true));
    }

    private static void tapeIsAsBefore(String what, CronFinder finder) {
        Check.throwsDue(what + ": tape is not longer", Check.IAE, () -> finder.end(TAPE.length() + 1));
        Check.due(what + ": tape is not shorter", TAPE.length(), () -> finder.end(TAPE.length()));
        Check.due(what + ": tape is good", "ok", () -> Check.read(finder));
        Check.due(what + ": its first", "2001-04-30 07:15:30", () -> Check.when(finder.next(0)));
        Check.due(what + ": its last", "2002-05-31 07:15:30", () -> Check.when(finder.last(Check.LAST_TIME)));
    }

    private static void wrongNumbers() {
        refused("end -1", Check.IAE, finder -> finder.end(-1));
        refused("end behind", Check.IAE, finder -> finder.end(TAPE.length() + 1));
        refused("end 401", Check.IAE, finder -> finder.end(401));
        refused("end lowest", Check.IAE, finder -> finder.end(Integer.MIN_VALUE));
        refused("holiday -1", Check.IAE, finder -> finder.holiday(-1, true));
        refused("holiday 120530", Check.IAE, finder -> finder.holiday(120530, true));
        refused("no holiday -1", Check.IAE, finder -> finder.holiday(-1, false));
        refused("no holiday 120530", Check.IAE, finder -> finder.holiday(120530, false));
        refused("next -1", Check.IAE, finder -> finder.next(-1));
        refused("next beyond", Check.IAE, finder -> finder.next(BEYOND));
        refused("last -1", Check.IAE, finder -> finder.last(-1));
        refused("last beyond", Check.IAE, finder -> finder.last(BEYOND));
        refused("is -1", Check.IAE, finder -> finder.is(-1));
        refused("is beyond", Check.IAE, finder -> finder.is(BEYOND));
        refused("later -1", Check.IAE, finder -> finder.later(-1, 1));
        refused("later beyond", Check.IAE, finder -> finder.later(BEYOND, 1));
        refused("later none", Check.IAE, finder -> finder.later(0, 0));
        refused("later 101", Check.IAE, finder -> finder.later(0, 101));
        refused("later, both wrong", Check.IAE, finder -> finder.later(-1, 101));
    }

    private static void fullTape() {
        for (int length = 381; length <= 400; length++) {
            CronFinder finder = new CronFinder();
            String text = "1 1 1 1 1 ?" + " ".repeat(length - 15) + "2222";
            Check.type(finder, text);
            Check.throwsDue("feed on " + length, Check.IOOBE, () -> finder.feed(-1, -1, -1, -1, -1));
            int longer = length + 1;
            Check.throwsDue("end " + longer, Check.IAE, () -> finder.end(longer));
            Check.due("length", length, () -> finder.end(longer - 1));
            Check.due("cron", "ok", () -> Check.read(finder));
            Check.due("next", "2222-01-01 01:01:01", () -> Check.when(finder.next(0)));
        }
    }

    private static void fullHolidays() {
        CronFinder finder = Check.finder("0 0 0 * * ?");
        for (int day = 0; day < 200; day++) {
            finder.holiday(day * 2, true);
        }
        Check.type(finder, TAPE);
        Check.throwsDue("one more, between", Check.IOOBE, () -> finder.holiday(201, true));
        Check.throwsDue("one more, below all but one", Check.IOOBE, () -> finder.holiday(1, true));
        Check.throwsDue("one more, above all", Check.IOOBE, () -> finder.holiday(120529, true));
        Check.due("still 200", 200, () -> finder.holiday(1, false));
        for (int day = 0; day < 402; day++) {
            boolean due = day % 2 == 1 || day == 400;
            long t = day * 86400L;
            if (day < 6 || day > 190 && day < 210 || day > 390) {
                Check.due("day " + day, due, () -> finder.is(t));
            }
        }
        Check.due("the last day", true, () -> finder.is(120529 * 86400L));
        Check.due("place", -1, finder::place);
        tapeIsAsBefore("201st holiday", finder);
    }

    /** What a broken cron changes, as said: the tape is empty, the place is told. */
    private static void brokenCron() {
        CronFinder finder = prepared();
        Check.due("broken", "throws." + Check.UOE, () -> Check.tell(finder, " "));
        Check.due("place", TAPE.length(), finder::place);
        Check.throwsDue("the tape is empty", Check.IAE, () -> finder.end(1));
        cronAndHolidaysAreAsBefore("broken cron", finder);
        CronFinder fresh = new CronFinder();
        Check.due("broken, none before", "throws." + Check.UOE, () -> Check.tell(fresh, "* * * * * ? * "));
        Check.due("no cron: next", -1L, () -> fresh.next(0));
        Check.due("no cron: last", -1L, () -> fresh.last(Check.LAST_TIME));
        Check.due("no cron: later", -1L, () -> fresh.later(0, 100));
        Check.due("no cron: is", false, () -> fresh.is(0));
    }

    private static void order() {
        CronFinder finder = new CronFinder();
        for (int day = 0; day < 200; day++) {
            finder.holiday(day, true);
        }
        Check.throwsDue("no day, and full", Check.IAE, () -> finder.holiday(-1, true));
        Check.throwsDue("no day either, and full", Check.IAE, () -> finder.holiday(120530, true));
        Check.throwsDue("full", Check.IOOBE, () -> finder.holiday(200, true));
    }
}
