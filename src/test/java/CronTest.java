/** Promises 4 and 10: which texts stand, and where the others are broken. */
public final class CronTest {
    public static void main(String[] args) {
        goodTexts();
        brokenShape();
        brokenNumbers();
        brokenNames();
        brokenItems();
        brokenDays();
        brokenWeekdays();
        keepsTheCronBefore();
        forgetsOlderCrons();
        leavesTheTapeEmpty();
        readsNothingBehindTheEnd();
        Check.finish();
    }

    private static void brokenDay(String day, int place) {
        Check.broken("0 0 0 " + day + " * ?", 6 + place);
    }

    private static void brokenWeekday(String weekday, int place) {
        Check.broken("0 0 0 ? * " + weekday, 10 + place);
    }

    private static void goodTexts() {
        Check.good("* * * * * ?");
        Check.good("* * * ? * *");
        Check.good("*   *  * *     * ? *");
        Check.good("* * * * * ?  1970");
        Check.good("59,0-59/99,*/1,7/7 0 23 31 DEC ? 2299");
        Check.good("58-2/3 59-0 23-0/2 31-1/99 DEC-1/5 ? 1970-2299/99");
        Check.good("0 0 0 1 JAN,FEB,MAR,APR,MAY,JUN,JUL,AUG,SEP,OCT,NOV,DEC ? *,1970/5,2000-2000");
        Check.good("0 0 0 ? * SUN,MON,TUE,WED,THU,FRI,SAT");
        Check.good("0 0 0 ? * SAT-1,SUN/2,*/3");
        Check.good("0 0 0 L * ?");
        Check.good("0 0 0 L-1 * ?");
        Check.good("0 0 0 L-30 * ? 2000");
        Check.good("0 0 0 LW * ?");
        Check.good("0 0 0 1W * ?");
        Check.good("0 0 0 31W 2 ?");
        Check.good("0 0 0 ? * L");
        Check.good("0 0 0 ? * 1L");
        Check.good("0 0 0 ? * SATL 2000");
        Check.good("0 0 0 ? * 7#5");
        Check.good("0 0 0 ? * MON#1 2000");
        Check.good("*" + " ".repeat(385) + "* * * * ? 2000");
    }

    private static void brokenShape() {
        Check.broken("", 0);
        Check.broken(" ", 0);
        Check.broken("*", 1);
        Check.broken("* ", 2);
        Check.broken("* * * * *", 9);
        Check.broken("* * * * * ", 10);
        Check.broken("* * * * * ? ", 12);
        Check.broken("* * * * * ?    ", 15);
        Check.broken("* * * * * ? * ", 13);
        Check.broken("* * * * * ? * *", 13);
        Check.broken(" * * * * * ?", 0);
        Check.broken("*\t* * * * ?", 1);
        Check.broken("* * * * * ?\n", 11);
        Check.broken("* * * * * ?\u0000", 11);
        Check.broken("* * * * * ?x", 11);
        Check.broken("* * * * * ? x", 12);
        Check.broken("* * * * * ? *x", 13);
        Check.broken("* * * * * ? ?", 12);
        Check.broken("* * * * * ? L", 12);
        Check.broken("? * * * * ?", 0);
        Check.broken("* ? * * * ?", 2);
        Check.broken("* * L * * ?", 4);
        Check.broken("* * * * ? ?", 8);
        Check.broken("\u00b1 * * * * ?", 0);
        Check.broken("1\u00b1 * * * * ?", 1);
    }

    private static void brokenNumbers() {
        Check.broken("60 0 0 * * ?", 0);
        Check.broken("0 60 0 * * ?", 2);
        Check.broken("0 0 24 * * ?", 4);
        Check.broken("0 0 0 32 * ?", 6);
        Check.broken("0 0 0 0 * ?", 6);
        Check.broken("0 0 0 * 13 ?", 8);
        Check.broken("0 0 0 * 0 ?", 8);
        Check.broken("0 0 0 ? * 0", 10);
        Check.broken("0 0 0 ? * 8", 10);
        Check.broken("* * * * * ? 1969", 12);
        Check.broken("* * * * * ? 2300", 12);
        Check.broken("* * * * * ? 0", 12);
        Check.broken("* * * * * ? 20", 12);
        Check.broken("* * * * * ? 20000", 12);
        Check.broken("00 0 0 * * ?", 1);
        Check.broken("05 0 0 * * ?", 1);
        Check.broken("0-05 0 0 * * ?", 3);
        Check.broken("0 0 0 01 * ?", 6);
        Check.broken("0 0 0 * 01 ?", 8);
        Check.broken("*/05 0 0 * * ?", 2);
        Check.broken("4294967296 0 0 * * ?", 0);
        Check.broken("42949672961 0 0 * * ?", 0);
        Check.broken("18446744073709551617 0 0 * * ?", 0);
        Check.broken("100x 0 0 * * ?", 0);
        Check.broken("1-60 0 0 * * ?", 2);
        Check.broken("-1 0 0 * * ?", 0);
        Check.broken("+1 0 0 * * ?", 0);
        Check.broken("1,61 0 0 * * ?", 2);
        Check.broken("*/0 * * * * ?", 2);
        Check.broken("*/100 * * * * ?", 2);
        Check.broken("1-2/4294967297 * * * * ?", 4);
        Check.broken("* * * * * ? 2000-1999", 17);
        Check.broken("* * * * * ? 2000-1999/0", 17);
        Check.broken("* * * * * ? 2000-1999x", 17);
        Check.broken("* * * * * ? 2001,2299-2298", 22);
    }

    private static void brokenNames() {
        Check.broken("0 0 0 * FOO ?", 8);
        Check.broken("0 0 0 * jan ?", 8);
        Check.broken("0 0 0 * JAn ?", 8);
        Check.broken("0 0 0 * JA", 8);
        Check.broken("0 0 0 * J ?", 8);
        Check.broken("0 0 0 * ANF ?", 8);
        Check.broken("0 0 0 * JANU ?", 11);
        Check.broken("0 0 0 * JAN1 ?", 11);
        Check.broken("0 0 0 * 1JAN ?", 9);
        Check.broken("0 0 0 * JAN-FEV ?", 12);
        Check.broken("0 0 0 * JAN,MON ?", 12);
        Check.broken("0 0 0 ? * MO", 10);
        Check.broken("0 0 0 ? * MONDAY", 13);
        Check.broken("0 0 0 ? * JAN", 10);
        Check.broken("0 0 0 ? * MON-", 14);
        Check.broken("JAN * * * * ?", 0);
        Check.broken("0 0 0 MON * ?", 6);
    }

    private static void brokenItems() {
        Check.broken("1,2, * * * * ?", 4);
        Check.broken(",1 * * * * ?", 0);
        Check.broken("1,,2 * * * * ?", 2);
        Check.broken("** * * * * ?", 1);
        Check.broken("*5 * * * * ?", 1);
        Check.broken("*-5 * * * * ?", 1);
        Check.broken("5* * * * * ?", 1);
        Check.broken("5-* * * * * ?", 2);
        Check.broken("5-", 2);
        Check.broken("5/", 2);
        Check.broken("5/* * * * * ?", 2);
        Check.broken("/5 * * * * ?", 0);
        Check.broken("1-2-3 * * * * ?", 3);
        Check.broken("1/2/3 * * * * ?", 3);
        Check.broken("1/2-3 * * * * ?", 3);
        Check.broken("1 -2 * * * ?", 2);
        Check.broken("*/2/2 * * * * ?", 3);
        Check.broken("5W * * * * ?", 1);
        Check.broken("5#1 * * * * ?", 1);
        Check.broken("0 0 0 * 5L ?", 9);
    }

    private static void brokenDays() {
        brokenDay("?,1", 1);
        brokenDay("??", 1);
        brokenDay("?/2", 1);
        brokenDay("1,?", 2);
        brokenDay("L,1", 1);
        brokenDay("1,L", 2);
        brokenDay("1-L", 2);
        brokenDay("LL", 1);
        brokenDay("L/2", 1);
        brokenDay("L5", 1);
        brokenDay("L-31", 2);
        brokenDay("L-0", 2);
        brokenDay("L-05", 2);
        brokenDay("L-", 2);
        brokenDay("L-W", 2);
        brokenDay("L-3W", 3);
        brokenDay("L-3-4", 3);
        brokenDay("L-3,4", 3);
        brokenDay("L-3/4", 3);
        brokenDay("LW-", 2);
        brokenDay("LW,1", 2);
        brokenDay("LWW", 2);
        brokenDay("W", 0);
        brokenDay("WL", 0);
        brokenDay("5WW", 2);
        brokenDay("5W,6", 2);
        brokenDay("5W-6", 2);
        brokenDay("5W/6", 2);
        brokenDay("4,5W", 3);
        brokenDay("4-5W", 3);
        brokenDay("4/5W", 3);
        brokenDay("*W", 1);
        brokenDay("0W", 0);
        brokenDay("32W", 0);
        brokenDay("5L", 1);
        brokenDay("5#1", 1);
        brokenDay("5 W", 2);
        brokenDay("l", 0);
    }

    private static void brokenWeekdays() {
        Check.broken("0 0 0 * * *", 10);
        Check.broken("0 0 0 ? * ?", 10);
        Check.broken("0 0 0 1 * MON", 10);
        Check.broken("0 0 0 L * L", 10);
        Check.broken("0 0 0 1W   *   FRIL", 15);
        Check.broken("0 0 0 * * ?,1", 11);
        Check.broken("0 0 0 * * ??", 11);
        Check.broken("0 0 0 * * ?L", 11);
        Check.broken("0 0 0 * * 8", 10);
        Check.broken("0 0 0 ? * ", 10);
        brokenWeekday("1,?", 2);
        brokenWeekday("LW", 1);
        brokenWeekday("L-1", 1);
        brokenWeekday("L,1", 1);
        brokenWeekday("L#1", 1);
        brokenWeekday("LL", 1);
        brokenWeekday("L/2", 1);
        brokenWeekday("1,L", 2);
        brokenWeekday("W", 0);
        brokenWeekday("6W", 1);
        brokenWeekday("6LL", 2);
        brokenWeekday("6L,1", 2);
        brokenWeekday("6L#1", 2);
        brokenWeekday("6L-1", 2);
        brokenWeekday("5,6L", 3);
        brokenWeekday("5-6L", 3);
        brokenWeekday("5/6L", 3);
        brokenWeekday("8L", 0);
        brokenWeekday("*L", 1);
        brokenWeekday("FRIX", 3);
        brokenWeekday("6#6", 2);
        brokenWeekday("6#0", 2);
        brokenWeekday("6#01", 2);
        brokenWeekday("6#15", 2);
        brokenWeekday("6#", 2);
        brokenWeekday("6#L", 2);
        brokenWeekday("6#1,2", 3);
        brokenWeekday("6#1#2", 3);
        brokenWeekday("6#1L", 3);
        brokenWeekday("5,6#1", 3);
        brokenWeekday("5-6#1", 3);
        brokenWeekday("*#1", 1);
        brokenWeekday("#1", 0);
    }

    private static void keepsTheCronBefore() {
        CronFinder finder = Check.finder("0 0 12 ? 3 6#3 2000/2");
        Check.due("next", "2000-03-17 12:00:00", () -> Check.when(finder.next(0)));
        Check.due("broken late", "throws." + Check.UOE, () -> Check.tell(finder, "1 1 1 LW 4 ? 1999 "));
        Check.due("place", 17, finder::place);
        Check.due("the cron before stays", "2000-03-17 12:00:00", () -> Check.when(finder.next(0)));
        Check.throwsDue("broken early", Check.UOE, () -> Check.read(finder));
        Check.due("place again", 0, finder::place);
        Check.due("it stays still", "2002-03-15 12:00:00", () -> Check.when(finder.later(0, 2)));
        Check.due("a new one", "ok", () -> Check.tell(finder, "1 1 1 LW 4 ? 1999"));
        Check.due("no place any more", -1, finder::place);
        Check.due("nothing of the old one", "1999-04-30 01:01:01", () -> Check.when(finder.last(Check.LAST_TIME)));
        Check.due("only one of it", "none", () -> Check.when(finder.later(0, 2)));
    }

    private static void forgetsOlderCrons() {
        CronFinder finder = Check.finder("0 0 0 ? 5 FRI#2 2000");
        Check.due("second", "ok", () -> Check.tell(finder, "1 1 1 2-3 2 ? 2002"));
        Check.due("broken", "throws." + Check.UOE, () -> Check.tell(finder, "* * * L * ? *,"));
        Check.due("third", "ok", () -> Check.tell(finder, "2 2 2 7 7 ? 2010"));
        Check.due("its first", "2010-07-07 02:02:02", () -> Check.when(finder.next(0)));
        Check.due("its last", "2010-07-07 02:02:02", () -> Check.when(finder.last(Check.LAST_TIME)));
        Check.due("it has just one", -1L, () -> finder.later(0, 2));
        Check.due("fourth", "ok", () -> Check.tell(finder, "3 3 3 ? 8 2 2011"));
        Check.due("its third", "2011-08-15 03:03:03", () -> Check.when(finder.later(0, 3)));
        Check.due("it has five", "2011-08-29 03:03:03", () -> Check.when(finder.last(Check.LAST_TIME)));
        Check.due("no more than five", -1L, () -> finder.later(0, 6));
    }

    private static void leavesTheTapeEmpty() {
        CronFinder finder = new CronFinder();
        Check.due("good", "ok", () -> Check.tell(finder, "* * * * * ?"));
        Check.throwsDue("empty behind a good one", Check.IAE, () -> finder.end(1));
        Check.due("broken", "throws." + Check.UOE, () -> Check.tell(finder, "* * * * x ?"));
        Check.throwsDue("empty behind a broken one", Check.IAE, () -> finder.end(1));
        Check.due("place stays over other calls", 8, () -> {
            finder.end(0);
            finder.next(0);
            finder.feed(0, 0, 0, 0, 0);
            return finder.place();
        });
    }

    /** Bytes that were cut off, or were read before, still lie behind the end. */
    private static void readsNothingBehindTheEnd() {
        cutOff("0 0 0 ? * MON", 12, 10);
        cutOff("0 0 0 * JAN ?", 10, 8);
        cutOff("0 0 0 ? * 6#1", 12, 12);
        cutOff("0 0 0 * * ? 2000", 15, 12);
        cutOff("0 0 0 * * ?", 10, 10);
        cutOff(" ".repeat(380), 0, 0);
        CronFinder finder = new CronFinder();
        Check.due("a name at the tape's end", "throws." + Check.UOE,
                () -> Check.tell(finder, "0 0 0 ? *" + " ".repeat(389) + "MO"));
        Check.due("its place", 398, finder::place);
        CronFinder other = Check.finder("0 0 0 * * ? 1999");
        Check.due("a shorter text", "ok", () -> Check.tell(other, "0 0 0 * * ?"));
        Check.due("every year", "2299-12-31 00:00:00", () -> Check.when(other.last(Check.LAST_TIME)));
    }

    private static void cutOff(String text, int length, int place) {
        CronFinder finder = new CronFinder();
        Check.type(finder, text);
        finder.end(length);
        Check.due("cron '" + text + "' cut off", "throws." + Check.UOE, () -> Check.read(finder));
        Check.due("place of '" + text + "' cut off", place, finder::place);
    }
}
