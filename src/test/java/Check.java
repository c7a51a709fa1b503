import java.time.LocalDate;
import java.time.LocalDateTime;
import java.time.ZoneOffset;

/** What the tests share: answers that are due, and texts brought to an object. */
final class Check {
    static final String IAE = "IllegalArgumentException";
    static final String IOOBE = "IndexOutOfBoundsException";
    static final String UOE = "UnsupportedOperationException";
    static final long LAST_TIME = 10413791999L;
    private static int wrong = 0;
    private static int count = 0;

    interface Call {
        Object run();
    }

    private Check() {
    }

    static void due(String what, Object want, Call call) {
        count++;
        String got = answerOf(call);
        if (!got.equals(String.valueOf(want))) {
            wrong++;
            System.out.println(what + " answered " + got + ", due is " + want);
        }
    }

    static void throwsDue(String what, String exception, Call call) {
        due(what, "throws." + exception, call);
    }

    /** To be the last line of a test. */
    static void finish() {
        if (count == 0) {
            System.out.println("nothing was tested");
        }
        System.exit(wrong == 0 && count > 0 ? 0 : 1);
    }

    private static String answerOf(Call call) {
        try {
            return String.valueOf(call.run());
        } catch (RuntimeException e) {
            return "throws." + e.getClass().getSimpleName();
        }
    }

    /** Brings a text to the tape behind what it has. */
    static void type(CronFinder finder, String text) {
        int length = finder.feed(0, 0, 0, 0, 0) - 20;
        finder.end(length);
        for (int start = 0; start < text.length(); start += 20) {
            finder.feed(four(text, start), four(text, start + 4), four(text, start + 8), four(text, start + 12),
                    four(text, start + 16));
            finder.end(length + Math.min(start + 20, text.length()));
        }
    }

    private static int four(String text, int start) {
        int bytes = 0;
        for (int k = start; k < start + 4; k++) {
            bytes = bytes << 8 | (k < text.length() ? text.charAt(k) & 255 : 0);
        }
        return bytes;
    }

    /** Brings a text to the tape and reads it: answers "ok", or the exception's name. */
    static String tell(CronFinder finder, String text) {
        type(finder, text);
        return answerOf(() -> read(finder));
    }

    /** Reads what is on the tape. */
    static String read(CronFinder finder) {
        finder.cron();
        return "ok";
    }

    /** Due is that a new object takes the text. */
    static void good(String text) {
        CronFinder finder = new CronFinder();
        due("cron '" + text + "'", "ok", () -> tell(finder, text));
        due("place of '" + text + "'", -1, finder::place);
    }

    /** Due is that a new object finds the text broken at the place. */
    static void broken(String text, int place) {
        CronFinder finder = new CronFinder();
        due("cron '" + text + "'", "throws." + UOE, () -> tell(finder, text));
        due("place of '" + text + "'", place, finder::place);
    }

    static CronFinder finder(String text) {
        CronFinder finder = new CronFinder();
        due("cron " + text, "ok", () -> tell(finder, text));
        return finder;
    }

    /** "2024-02-29 12:00:00", or a date alone for its beginning. */
    static long time(String when) {
        String whole = when.length() == 10 ? when + " 00:00:00" : when;
        return LocalDateTime.parse(whole.replace(' ', 'T')).toEpochSecond(ZoneOffset.UTC);
    }

    static int day(String date) {
        return (int) LocalDate.parse(date).toEpochDay();
    }

    static String when(long time) {
        if (time < 0) {
            return "none";
        }
        LocalDateTime date = LocalDateTime.ofEpochSecond(time, 0, ZoneOffset.UTC);
        return date.toLocalDate() + String.format(" %02d:%02d:%02d", date.getHour(), date.getMinute(), date.getSecond());
    }
}
