/** Terms: "the first byte that can't stand there (its length at the end)", for each of the 256 bytes, and blanks. */
public final class SignsTest {
    private static final String DIGITS = "0123456789";
    private static final String NO_ZERO = "123456789";

    public static void main(String[] args) {
        signsOfItems();
        signsOfDays();
        signsOfMonths();
        signsOfWeekdays();
        signsOfYears();
        blanksBetween();
        blanksInFrontAndBehind();
        signsWithoutBlanks();
        lengthAtTheEnd();
        Check.finish();
    }

    /** Behind the text just the given bytes can stand; none of them makes a number that is out of range. */
    private static void behind(String text, String stand) {
        behind(text, stand, -1);
    }

    /** Behind the text just the given bytes can stand; other digits lengthen a number whose first byte is at numberAt. */
    private static void behind(String text, String stand, int numberAt) {
        for (char sign = 0; sign < 256; sign++) {
            String longer = text + sign;
            if (stand.indexOf(sign) >= 0) {
                Check.due("'" + longer + "' stands so far", true, () -> standsSoFar(longer));
            } else {
                int place = numberAt >= 0 && DIGITS.indexOf(sign) >= 0 ? numberAt : text.length();
                Check.broken(longer, place);
                Check.broken(longer + " 0 0 * * ? 2000", place);
            }
        }
    }

    private static boolean standsSoFar(String text) {
        CronFinder finder = new CronFinder();
        boolean taken = Check.tell(finder, text).equals("ok");
        return finder.place() == (taken ? -1 : text.length());
    }

    /** "ITEM: * [/ N] | V [- V] [/ N]", "FIELD: ITEM {, ITEM}" */
    private static void signsOfItems() {
        behind("", "*" + DIGITS);
        behind("*", "/, ");
        behind("*/", NO_ZERO);
        behind("*/9", DIGITS + ", ");
        behind("*/99", ", ", 2);
        behind("0", "-/, ");
        behind("5", DIGITS + "-/, ");
        behind("6", "-/, ", 0);
        behind("59", "-/, ", 0);
        behind("1-", DIGITS);
        behind("1-0", "/, ");
        behind("1-2", DIGITS + "/, ");
        behind("1-20", "/, ", 2);
        behind("1-2/", NO_ZERO);
        behind("1-2/3", DIGITS + ", ");
        behind("1/", NO_ZERO);
        behind("1/2", DIGITS + ", ");
        behind("1,", "*" + DIGITS);
        behind("1,*", "/, ");
        behind("* ", " *" + DIGITS);
        behind("* *", "/, ");
        behind("0 0 ", " *" + DIGITS);
        behind("0 0 2", "0123-/, ", 4);
        behind("0 0 23", "-/, ", 4);
    }

    /** "the other one may, alone, be for day: L .. L - N .. LW .. V W" */
    private static void signsOfDays() {
        behind("0 0 0 ", " *?L" + NO_ZERO);
        behind("0 0 0 *", "/, ");
        behind("0 0 0 ?", " ");
        behind("0 0 0 L", "-W ");
        behind("0 0 0 L-", NO_ZERO);
        behind("0 0 0 L-2", DIGITS + " ");
        behind("0 0 0 L-3", "0 ", 8);
        behind("0 0 0 L-30", " ", 8);
        behind("0 0 0 LW", " ");
        behind("0 0 0 2", DIGITS + "W-/, ");
        behind("0 0 0 3", "01W-/, ", 6);
        behind("0 0 0 31", "W-/, ", 6);
        behind("0 0 0 5W", " ");
        behind("0 0 0 5-", NO_ZERO);
        behind("0 0 0 5-6", "/, ", 8);
        behind("0 0 0 5/", NO_ZERO);
        behind("0 0 0 5/6", DIGITS + ", ");
        behind("0 0 0 5,", "*" + NO_ZERO);
        behind("0 0 0 5,6", "-/, ", 8);
        behind("0 0 0 *,6", "-/, ", 8);
    }

    private static void signsOfMonths() {
        behind("0 0 0 * ", " *" + NO_ZERO);
        behind("0 0 0 * 1", "012-/, ", 8);
        behind("0 0 0 * 12", "-/, ", 8);
        behind("0 0 0 * JAN", "-/, ");
        behind("0 0 0 * JAN-", NO_ZERO);
        behind("0 0 0 * JAN-FEB", "/, ");
        behind("0 0 0 * JAN,", "*" + NO_ZERO);
        behind("0 0 0 * JAN/", NO_ZERO);
        behind("0 0 0 ? DEC", "-/, ");
    }

    /** "a second ? at that, a weekday that is not ? where the day is not, too" */
    private static void signsOfWeekdays() {
        behind("0 0 0 * * ", " ?");
        behind("0 0 0 L * ", " ?");
        behind("0 0 0 L-1 * ", " ?");
        behind("0 0 0 LW * ", " ?");
        behind("0 0 0 1W * ", " ?");
        behind("0 0 0 1,2-3/4 * ", " ?");
        behind("0 0 0 * * ?", " ");
        behind("0 0 0 ? * ", " *L1234567");
        behind("0 0 0 ? *  ", " *L1234567");
        behind("0 0 0 ? * *", "/, ");
        behind("0 0 0 ? * L", " ");
        behind("0 0 0 ? * 6", "L#-/, ", 10);
        behind("0 0 0 ? * SAT", "L#-/, ");
        behind("0 0 0 ? * 6L", " ");
        behind("0 0 0 ? * SATL", " ");
        behind("0 0 0 ? * 6#", "12345");
        behind("0 0 0 ? * 6#5", " ", 12);
        behind("0 0 0 ? * 6-", "1234567");
        behind("0 0 0 ? * 6-7", "/, ", 12);
        behind("0 0 0 ? * 6,", "*1234567");
        behind("0 0 0 ? * 6,7", "-/, ", 12);
        behind("0 0 0 ? * *,7", "-/, ", 12);
        behind("0 0 0 ? * 6/", NO_ZERO);
        behind("0 0 0 ? * 6/7", DIGITS + ", ");
    }

    /** One digit alone is no year, so it is a number out of range. */
    private static void signsOfYears() {
        behind("0 0 0 * * ? ", " *");
        behind("0 0 0 ? * L ", " *");
        behind("0 0 0 * * ? *", "/,");
        behind("0 0 0 * * ? 2299", "-/,", 12);
        behind("0 0 0 * * ? 2298-", "");
        behind("0 0 0 * * ? 2298-2299", "/,", 17);
        behind("0 0 0 * * ? 2299/", NO_ZERO);
        behind("0 0 0 * * ? 2299/9", DIGITS + ",");
        behind("0 0 0 * * ? 2299,", "*");
    }

    /** "blanks (32) between, one or more, none else" */
    private static void blanksBetween() {
        String[] fields = {"0", "0", "0", "1", "1", "?", "2000"};
        for (int wide = 0; wide < 6; wide++) {
            for (int blanks = 1; blanks <= 384; blanks += blanks < 4 ? 1 : 95) {
                StringBuilder text = new StringBuilder(fields[0]);
                for (int k = 1; k < 7; k++) {
                    text.append(" ".repeat(k - 1 == wide ? blanks : 1)).append(fields[k]);
                }
                Check.good(text.toString());
            }
        }
        Check.broken("0\u00a00 0 1 1 ?", 1);
        Check.broken("0 0\t0 1 1 ?", 3);
        Check.broken("0 0 0 \t1 1 ?", 6);
        Check.broken("0 0 0 1\n1 ?", 7);
        Check.broken("0 0 0 1 1\r?", 9);
        Check.broken("0 0 0 1 1 ?\u00002000", 11);
        Check.broken("0,0,0,1,1,?", 10);
    }

    /** "in front and behind all they can not stand; behind a sixth FIELD they want a seventh one" */
    private static void blanksInFrontAndBehind() {
        for (int blanks = 1; blanks <= 5; blanks++) {
            String some = " ".repeat(blanks);
            Check.broken(some, 0);
            Check.broken(some + "0 0 0 1 1 ?", 0);
            Check.broken("0 0 0 1 1 ?" + some, 11 + blanks);
            Check.broken("0 0 0 ? 1 2" + some, 11 + blanks);
            Check.broken("0 0 0 1 1 ?" + some + "x", 11 + blanks);
            Check.broken("0 0 0 1 1 ? 2000" + some, 16);
            Check.broken("0 0 0 1 1 ? 2000" + some + "2000", 16);
            Check.broken("0 0 0 1 1 ? *" + some, 13);
        }
        Check.broken("0 0 0 1 1 ?" + " ".repeat(389), 400);
        Check.broken("0 0 0 1 1 ? *" + " ".repeat(387), 13);
        Check.broken(" ".repeat(400), 0);
    }

    /** "(L, W, #, - as signs without blanks.)" */
    private static void signsWithoutBlanks() {
        Check.broken("0 0 0 L -3 * ?", 8);
        Check.broken("0 0 0 L- 3 * ?", 8);
        Check.broken("0 0 0 L W * ?", 8);
        Check.broken("0 0 0 5 W * ?", 8);
        Check.broken("0 0 0 5 -6 * ?", 8);
        Check.broken("0 0 0 5- 6 * ?", 8);
        Check.broken("0 0 0 ? * 6 L", 12);
        Check.broken("0 0 0 ? * 6 #1", 12);
        Check.broken("0 0 0 ? * 6# 1", 12);
        Check.broken("0 0 0 ? * 6 -7", 12);
        Check.broken("0 0 0 ? * 6- 7", 12);
        Check.broken("0 0 0 * * ? 2000 -2001", 16);
        Check.broken("0 0 0 * * ? 2000- 2001", 17);
        Check.broken("1, 2 0 * * ?", 2);
        Check.broken("1 ,2 0 0 * * ?", 2);
        Check.broken("* /2 0 0 * * ?", 2);
        Check.broken("*/ 2 0 0 * * ?", 2);
        Check.broken("1 2 3 4 J AN ?", 8);
    }

    /** "(its length at the end)": each beginning of a text that is not whole. */
    private static void lengthAtTheEnd() {
        String text = "5-7/2,*/3  0 1 L-3 5 ? *";
        for (int length = 0; length < text.length(); length++) {
            String beginning = text.substring(0, length);
            if (beginning.endsWith("?")) {
                Check.good(beginning);
            } else {
                Check.broken(beginning, length);
            }
        }
        Check.good(text);
    }
}
