/** Terms: "names (three letters, capitals; what follows is the next sign)" and "a name that is none, likewise". */
public final class NamesTest {
    private static final String[] MONTHS = "JAN FEB MAR APR MAY JUN JUL AUG SEP OCT NOV DEC".split(" ");
    private static final String[] WEEKDAYS = "SUN MON TUE WED THU FRI SAT".split(" ");
    private static final String MONTH_FRONT = "0 0 0 ? ";
    private static final String WEEKDAY_FRONT = "0 0 0 ? * ";

    public static void main(String[] args) {
        allThreeCapitals();
        meaningOfMonths();
        meaningOfWeekdays();
        namesThatAreNone();
        whatFollows();
        namesElsewhere();
        Check.finish();
    }

    private static void month(String what, int place) {
        if (place < 0) {
            Check.good(MONTH_FRONT + what + " *");
        } else {
            Check.broken(MONTH_FRONT + what + " *", MONTH_FRONT.length() + place);
        }
    }

    private static void weekday(String what, int place) {
        if (place < 0) {
            Check.good(WEEKDAY_FRONT + what);
        } else {
            Check.broken(WEEKDAY_FRONT + what, WEEKDAY_FRONT.length() + place);
        }
    }

    private static boolean isOneOf(String[] names, String name) {
        for (String one : names) {
            if (one.equals(name)) {
                return true;
            }
        }
        return false;
    }

    private static void allThreeCapitals() {
        for (char a = 'A'; a <= 'Z'; a++) {
            for (char b = 'A'; b <= 'Z'; b++) {
                for (char c = 'A'; c <= 'Z'; c++) {
                    String name = "" + a + b + c;
                    month(name, isOneOf(MONTHS, name) ? -1 : 0);
                    if (a != 'L') {
                        weekday(name, isOneOf(WEEKDAYS, name) ? -1 : 0);
                    } else {
                        weekday(name, 1);
                    }
                }
            }
        }
    }

    private static void meaningOfMonths() {
        for (int k = 1; k <= 12; k++) {
            CronFinder finder = Check.finder("0 0 0 1 " + MONTHS[k - 1] + " ? 2001");
            long due = Check.time(String.format("2001-%02d-01", k));
            Check.due(MONTHS[k - 1] + " next", due, () -> finder.next(0));
            Check.due(MONTHS[k - 1] + " last", due, () -> finder.last(Check.LAST_TIME));
        }
    }

    /** "(1 Sunday)"; DAY 0 is a Thursday, so DAY 3 is a Sunday. */
    private static void meaningOfWeekdays() {
        for (int k = 1; k <= 7; k++) {
            CronFinder named = Check.finder("0 0 0 ? 1 " + WEEKDAYS[k - 1] + " 1970");
            CronFinder numbered = Check.finder("0 0 0 ? 1 " + k + " 1970");
            for (int day = 0; day < 31; day++) {
                long t = day * 86400L;
                boolean due = day % 7 == (k + 2) % 7;
                Check.due(WEEKDAYS[k - 1] + " on day " + day, due, () -> named.is(t));
                Check.due(k + " on day " + day, due, () -> numbered.is(t));
            }
        }
    }

    private static void namesThatAreNone() {
        for (String name : MONTHS) {
            spoil(name, true);
        }
        for (String name : WEEKDAYS) {
            spoil(name, false);
        }
    }

    private static void spoil(String name, boolean ofMonth) {
        for (int k = 0; k < 3; k++) {
            String small = name.substring(0, k) + Character.toLowerCase(name.charAt(k)) + name.substring(k + 1);
            String digit = name.substring(0, k) + "x" + name.substring(k + 1);
            String high = name.substring(0, k) + (char) (name.charAt(k) + 128) + name.substring(k + 1);
            for (String wrong : new String[] {small, digit, high}) {
                wrongName(wrong, ofMonth);
            }
        }
        wrongName(name.toLowerCase(), ofMonth);
        wrongName(name.substring(0, 2) + "1", ofMonth);
        wrongName(name.substring(0, 2) + "-", ofMonth);
        wrongName(name.substring(0, 2), ofMonth);
        wrongName(name.substring(0, 1), ofMonth);
        String front = ofMonth ? MONTH_FRONT : WEEKDAY_FRONT;
        Check.broken(front + name.substring(0, 2), front.length());
        Check.broken(front + name.substring(0, 1), front.length());
    }

    private static void wrongName(String wrong, boolean ofMonth) {
        if (ofMonth) {
            month(wrong, 0);
            month("FEB-" + wrong, 4);
            month("*," + wrong, 2);
        } else {
            weekday(wrong, 0);
            weekday("TUE-" + wrong, 4);
            weekday("*," + wrong, 2);
        }
    }

    private static void whatFollows() {
        month("JANUARY", 3);
        month("JANFEB", 3);
        month("JAN1", 3);
        month("1JAN", 1);
        month("JAN-FEB", -1);
        month("JAN-2", -1);
        month("1-FEB", -1);
        month("JAN/2", -1);
        month("DEC-JAN/2,JUN", -1);
        weekday("MONDAY", 3);
        weekday("MONL", -1);
        weekday("MON#2", -1);
        weekday("MON2", 3);
        weekday("2MON", 1);
        weekday("MON-3", -1);
        weekday("7-SUN", -1);
        weekday("SAT/2", -1);
        weekday("SUN/99,SAT", -1);
    }

    private static void namesElsewhere() {
        String[] front = {"", "0 ", "0 0 ", "0 0 0 ", "0 0 0 * * ? "};
        for (String one : front) {
            Check.broken(one + "JAN 0 0 1 1 ?", one.length());
            Check.broken(one + "MON 0 0 1 1 ?", one.length());
        }
        for (String name : WEEKDAYS) {
            month(name, 0);
            Check.broken("0 0 0 * * " + name, 10);
        }
        for (String name : MONTHS) {
            weekday(name, 0);
        }
    }
}
