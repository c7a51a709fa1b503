/**
 * Terms: the range of each field and of each N, with the last number that is allowed and the first that is not, and a
 * 0 in front.
 */
public final class RangesTest {
    private static final String[] FRONT = {"", "0 ", "0 0 ", "0 0 0 ", "0 0 0 1 ", "0 0 0 ? * ", "0 0 0 1 1 ? "};
    private static final String[] BEHIND = {" 0 0 1 1 ?", " 0 1 1 ?", " 1 1 ?", " 1 ?", " ?", "", ""};
    private static final int[] LOWEST = {0, 0, 0, 1, 1, 1, 1970};
    private static final int[] HIGHEST = {59, 59, 23, 31, 12, 7, 2299};

    public static void main(String[] args) {
        for (int field = 0; field < 7; field++) {
            numbersOfField(field);
            longNumbersInField(field);
            zeroInFront(field);
            stepsOfField(field);
        }
        daysBeforeTheLast();
        ordinals();
        workdays();
        lastWeekdays();
        Check.finish();
    }

    /** What stands in a field, with the place in it that is broken, or -1. */
    private static void in(int field, String what, int place) {
        String text = FRONT[field] + what + BEHIND[field];
        if (place < 0) {
            Check.good(text);
        } else {
            Check.broken(text, FRONT[field].length() + place);
        }
    }

    /** "seconds 0 .. 59, minutes 0 .. 59, hours 0 .. 23, day 1 .. 31, month 1 .. 12, weekday 1 .. 7, year 1970 .. 2299" */
    private static void numbersOfField(int field) {
        String low = String.valueOf(LOWEST[field]);
        String high = String.valueOf(HIGHEST[field]);
        for (int number = 0; number <= HIGHEST[field] + 110; number++) {
            boolean allowed = number >= LOWEST[field] && number <= HIGHEST[field];
            in(field, String.valueOf(number), allowed ? -1 : 0);
            in(field, low + "-" + number, allowed ? -1 : low.length() + 1);
            in(field, number + "-" + high, allowed ? -1 : 0);
            in(field, high + "," + number, allowed ? -1 : high.length() + 1);
            in(field, number + "/1", allowed ? -1 : 0);
            in(field, "*," + low + "-" + number + "/99", allowed ? -1 : low.length() + 3);
        }
    }

    /** "a number out of range (all digits that follow one another) at its first byte" */
    private static void longNumbersInField(int field) {
        String high = String.valueOf(HIGHEST[field]);
        for (int digit = 0; digit <= 9; digit++) {
            in(field, high + digit, 0);
            in(field, high + digit + "x", 0);
            in(field, high + "," + high + digit + "x", high.length() + 1);
        }
        // whole numbers that a number of 8, 16, 32 or 64 bits would take for the highest one
        in(field, String.valueOf(256L + HIGHEST[field]), 0);
        in(field, String.valueOf(65536L + HIGHEST[field]), 0);
        in(field, String.valueOf((1L << 32) + HIGHEST[field]), 0);
        in(field, new java.math.BigInteger("18446744073709551616").add(new java.math.BigInteger(high)).toString(), 0);
        in(field, "1" + "0".repeat(360) + high, 0);
        in(field, "9".repeat(380), 0);
    }

    /** "no 0 in front: a 0 there is the number 0, what follows it can not stand" */
    private static void zeroInFront(int field) {
        int place = LOWEST[field] == 0 ? 1 : 0;
        String high = String.valueOf(HIGHEST[field]);
        for (int number = 0; number <= HIGHEST[field]; number += field == 6 ? 199 : 1) {
            in(field, "0" + number, place);
            in(field, high + "-0" + number, high.length() + 1 + place);
            in(field, high + ",0" + number, high.length() + 1 + place);
        }
        in(field, "000", place);
        in(field, "0".repeat(200), place);
    }

    /** "N 1 .. 99" */
    private static void stepsOfField(int field) {
        String low = String.valueOf(LOWEST[field]);
        String high = String.valueOf(HIGHEST[field]);
        for (int n = 0; n <= 1000; n++) {
            boolean allowed = n >= 1 && n <= 99;
            in(field, "*/" + n, allowed ? -1 : 2);
            in(field, low + "/" + n, allowed ? -1 : low.length() + 1);
            in(field, low + "-" + high + "/" + n, allowed ? -1 : low.length() + high.length() + 2);
        }
        in(field, "*/" + ((1L << 32) + 1), 2);
        in(field, "*/18446744073709551617", 2);
        in(field, "*/" + "1".repeat(300), 2);
        in(field, "*/", 2);
        in(field, low + "/", low.length() + 1);
    }

    /** "L - N (N 1 .. 30)" */
    private static void daysBeforeTheLast() {
        for (int n = 0; n <= 400; n++) {
            in(3, "L-" + n, n >= 1 && n <= 30 ? -1 : 2);
        }
        in(3, "L-4294967297", 2);
        in(3, "L-", 2);
    }

    /** "V # N (N 1 .. 5)" */
    private static void ordinals() {
        for (int n = 0; n <= 400; n++) {
            in(5, "7#" + n, n >= 1 && n <= 5 ? -1 : 2);
            in(5, "SUN#" + n, n >= 1 && n <= 5 ? -1 : 4);
        }
        for (int weekday = 0; weekday <= 100; weekday++) {
            in(5, weekday + "#5", weekday >= 1 && weekday <= 7 ? -1 : 0);
        }
        in(5, "1#4294967297", 2);
    }

    /** "V W", V a day 1 .. 31 */
    private static void workdays() {
        for (int day = 0; day <= 400; day++) {
            in(3, day + "W", day >= 1 && day <= 31 ? -1 : 0);
        }
    }

    /** "V L", V a weekday 1 .. 7 */
    private static void lastWeekdays() {
        for (int weekday = 0; weekday <= 100; weekday++) {
            in(5, weekday + "L", weekday >= 1 && weekday <= 7 ? -1 : 0);
        }
    }
}
