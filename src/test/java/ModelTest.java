import java.time.DayOfWeek;
import java.time.LocalDate;
import java.time.YearMonth;
import java.time.temporal.TemporalAdjusters;
import java.util.ArrayList;
import java.util.BitSet;
import java.util.List;
import java.util.Random;
import java.util.function.Predicate;
import java.util.regex.Matcher;
import java.util.regex.Pattern;

/** Promises 4 to 10 against a second, slow program: java.time for the days, regular expressions for the places. */
public final class ModelTest {
    private static final int DAYS = 120530;
    private static final String[] MONTHS = "JAN FEB MAR APR MAY JUN JUL AUG SEP OCT NOV DEC".split(" ");
    private static final String[] WEEKDAYS = "SUN MON TUE WED THU FRI SAT".split(" ");
    private static final Random random = new Random(20261115);

    public static void main(String[] args) {
        for (int k = 0; k < 250; k++) {
            compareFires(randomCron(k % 3 == 0));
        }
        for (int k = 0; k < 60000; k++) {
            comparePlace(spoil(randomCron(false).text));
        }
        Check.finish();
    }

    /** A text with what it means. */
    private static final class Cron {
        String text = "";
        final BitSet[] fields = new BitSet[7];
        Predicate<LocalDate> day = date -> true;

        boolean firesOn(LocalDate date) {
            return fields[4].get(date.getMonthValue()) && fields[6].get(date.getYear()) && day.test(date);
        }

        BitSet secondsOfDay() {
            BitSet all = new BitSet();
            for (int second = 0; second < 86400; second++) {
                all.set(second, fields[0].get(second % 60) && fields[1].get(second / 60 % 60)
                        && fields[2].get(second / 3600));
            }
            return all;
        }
    }

    // ---- making texts

    private static Cron randomCron(boolean rare) {
        Cron cron = new Cron();
        List<String> parts = new ArrayList<>();
        for (int field = 0; field < 3; field++) {
            parts.add(randomField(cron, field, 0, field == 2 ? 23 : 59, null));
        }
        boolean byDay = random.nextBoolean();
        String day = byDay ? randomDay(cron) : "?";
        String month = random.nextInt(rare ? 9 : 2) == 0 ? all(cron, 4, 1, 12) : randomField(cron, 4, 1, 12, MONTHS);
        parts.add(day);
        parts.add(month);
        parts.add(byDay ? "?" : randomWeekday(cron));
        if (rare || random.nextInt(3) == 0) {
            parts.add(randomField(cron, 6, 1970, 2299, null));
        } else {
            all(cron, 6, 1970, 2299);
        }
        StringBuilder text = new StringBuilder(parts.get(0));
        for (int k = 1; k < parts.size(); k++) {
            text.append(" ".repeat(random.nextInt(5) == 0 ? 1 + random.nextInt(4) : 1)).append(parts.get(k));
        }
        cron.text = text.toString();
        return cron;
    }

    private static String all(Cron cron, int field, int first, int last) {
        cron.fields[field] = new BitSet();
        cron.fields[field].set(first, last + 1);
        return "*";
    }

    private static String randomField(Cron cron, int field, int first, int last, String[] names) {
        BitSet numbers = new BitSet();
        cron.fields[field] = numbers;
        StringBuilder text = new StringBuilder();
        int items = 1 + random.nextInt(3) * random.nextInt(2);
        for (int k = 0; k < items; k++) {
            text.append(k > 0 ? "," : "").append(randomItem(numbers, first, last, names));
        }
        return text.toString();
    }

    private static String randomItem(BitSet numbers, int first, int last, String[] names) {
        int from = first + random.nextInt(last - first + 1);
        int to = first + random.nextInt(last - first + 1);
        if (first == 1970 && to < from) {
            to = from + random.nextInt(last - from + 1);
        }
        int step = 1 + (random.nextInt(4) == 0 ? random.nextInt(99) : random.nextInt(6));
        List<Integer> row = new ArrayList<>();
        String text;
        int kind = random.nextInt(6);
        if (kind == 0) {
            text = "*";
            count(row, first, last);
        } else if (kind <= 2) {
            text = sign(from, first, names) + "-" + sign(to, first, names);
            if (from <= to) {
                count(row, from, to);
            } else {
                count(row, from, last);
                count(row, first, to);
            }
        } else if (kind == 3) {
            count(row, from, last);
            take(numbers, row, step);
            return sign(from, first, names) + "/" + step;
        } else {
            numbers.set(from);
            return sign(from, first, names);
        }
        boolean stepped = random.nextBoolean();
        take(numbers, row, stepped ? step : 1);
        return stepped ? text + "/" + step : text;
    }

    private static void count(List<Integer> row, int from, int to) {
        for (int k = from; k <= to; k++) {
            row.add(k);
        }
    }

    private static void take(BitSet numbers, List<Integer> row, int step) {
        for (int k = 0; k < row.size(); k++) {
            if (k % step == 0) {
                numbers.set(row.get(k));
            }
        }
    }

    private static String sign(int number, int first, String[] names) {
        return names != null && random.nextBoolean() ? names[number - first] : String.valueOf(number);
    }

    private static String randomDay(Cron cron) {
        int v = 1 + random.nextInt(31);
        int n = 1 + random.nextInt(30);
        switch (random.nextInt(6)) {
            case 0:
                cron.day = date -> date.plusDays(1).getDayOfMonth() == 1;
                return "L";
            case 1:
                cron.day = date -> date.plusDays(n).getMonth() == date.getMonth()
                        && date.plusDays(n + 1).getDayOfMonth() == 1;
                return "L-" + n;
            case 2:
                cron.day = date -> date.equals(nearest(date, date.lengthOfMonth()));
                return "LW";
            case 3:
                cron.day = date -> v <= date.lengthOfMonth() && date.equals(nearest(date, v));
                return v + "W";
            default:
                String text = randomField(cron, 3, 1, 31, null);
                cron.day = date -> cron.fields[3].get(date.getDayOfMonth());
                return text;
        }
    }

    /** Of all working days of the month the one with the smallest distance. */
    private static LocalDate nearest(LocalDate month, int v) {
        LocalDate aim = month.withDayOfMonth(v);
        LocalDate best = null;
        for (int day = Math.max(1, v - 3); day <= Math.min(month.lengthOfMonth(), v + 3); day++) {
            LocalDate date = month.withDayOfMonth(day);
            boolean working = date.getDayOfWeek().getValue() <= 5;
            if (working && (best == null || distance(date, aim) < distance(best, aim))) {
                best = date;
            }
        }
        return best;
    }

    private static long distance(LocalDate a, LocalDate b) {
        return Math.abs(a.toEpochDay() - b.toEpochDay());
    }

    private static String randomWeekday(Cron cron) {
        int v = 1 + random.nextInt(7);
        int n = 1 + random.nextInt(5);
        DayOfWeek weekday = DayOfWeek.SUNDAY.plus(v - 1);
        switch (random.nextInt(5)) {
            case 0:
                cron.day = date -> date.getDayOfWeek() == DayOfWeek.SATURDAY;
                return "L";
            case 1:
                cron.day = date -> date.equals(date.with(TemporalAdjusters.lastInMonth(weekday)));
                return sign(v, 1, WEEKDAYS) + "L";
            case 2:
                cron.day = date -> date.equals(date.with(TemporalAdjusters.dayOfWeekInMonth(n, weekday)));
                return sign(v, 1, WEEKDAYS) + "#" + n;
            default:
                String text = randomField(cron, 5, 1, 7, WEEKDAYS);
                cron.day = date -> cron.fields[5].get(date.getDayOfWeek().getValue() % 7 + 1);
                return text;
        }
    }

    // ---- fires

    private static void compareFires(Cron cron) {
        CronFinder finder = Check.finder(cron.text);
        BitSet days = new BitSet(DAYS);
        for (YearMonth month = YearMonth.of(1970, 1); month.getYear() < 2300; month = month.plusMonths(1)) {
            for (int day = 1; day <= month.lengthOfMonth(); day++) {
                LocalDate date = month.atDay(day);
                days.set((int) date.toEpochDay(), cron.firesOn(date));
            }
        }
        int holidays = random.nextInt(3) == 0 ? 0 : random.nextInt(30);
        int around = random.nextInt(DAYS);
        for (int k = 0; k < holidays; k++) {
            int near = days.nextSetBit(Math.min(DAYS - 1, around + random.nextInt(100)));
            int day = near < 0 ? random.nextInt(DAYS) : near;
            finder.holiday(day, true);
            days.clear(day);
        }
        BitSet seconds = cron.secondsOfDay();
        for (int k = 0; k < 40; k++) {
            compareAt(cron.text, finder, days, seconds, randomTime(days, seconds, around));
        }
    }

    private static long randomTime(BitSet days, BitSet seconds, int around) {
        int kind = random.nextInt(4);
        long time = (long) (random.nextDouble() * Check.LAST_TIME);
        if (kind > 0) {
            int from = kind == 1 ? around + random.nextInt(120) - 20 : random.nextInt(DAYS);
            int day = days.nextSetBit(Math.max(0, from));
            int second = seconds.nextSetBit(random.nextInt(86400));
            time = (day < 0 ? 0 : day) * 86400L + (second < 0 ? 86399 : second) + random.nextInt(3) - 1;
        }
        return Math.max(0, Math.min(Check.LAST_TIME, time));
    }

    private static void compareAt(String text, CronFinder finder, BitSet days, BitSet seconds, long t) {
        String what = "'" + text + "' at " + t + ": ";
        Check.due(what + "next", behind(days, seconds, t), () -> finder.next(t));
        Check.due(what + "last", notBehind(days, seconds, t), () -> finder.last(t));
        Check.due(what + "is", notBehind(days, seconds, t) == t, () -> finder.is(t));
        int n = 1 + random.nextInt(100);
        long found = t;
        for (int k = 0; k < n && found >= 0; k++) {
            found = behind(days, seconds, found);
        }
        long due = found;
        Check.due(what + "later " + n, due, () -> finder.later(t, n));
    }

    private static long behind(BitSet days, BitSet seconds, long t) {
        int day = (int) (t / 86400);
        int second = seconds.nextSetBit((int) (t % 86400) + 1);
        if (days.get(day) && second >= 0) {
            return day * 86400L + second;
        }
        int found = days.nextSetBit(day + 1);
        return found < 0 ? -1 : found * 86400L + seconds.nextSetBit(0);
    }

    private static long notBehind(BitSet days, BitSet seconds, long t) {
        int day = (int) (t / 86400);
        int second = seconds.previousSetBit((int) (t % 86400));
        if (days.get(day) && second >= 0) {
            return day * 86400L + second;
        }
        int found = day == 0 ? -1 : days.previousSetBit(day - 1);
        return found < 0 ? -1 : found * 86400L + seconds.previousSetBit(86399);
    }

    // ---- places: each token becomes one character, a regular expression says how far they can stand

    private static final char NUMBER = 0x1000;
    private static final char NAME = 0x3000;
    private static final Pattern GRAMMAR = Pattern.compile(grammar());

    private static String grammar() {
        String seconds = items(numbers(0, 59));
        String hours = items(numbers(0, 23));
        String day = numbers(1, 31);
        String month = items("[" + range(NUMBER, 1, 12) + range(NAME, 0, 11) + "]");
        String weekday = "[" + range(NUMBER, 1, 7) + range(NAME, 12, 18) + "]";
        String days = either(items(day), "L", "L-" + numbers(1, 30), "LW", day + "W");
        String weekdays = either(items(weekday), "L", weekday + "L", weekday + "#" + numbers(1, 5));
        String daysOrWeekdays = either(days + " +" + month + " +\\?", "\\? +" + month + " +" + weekdays);
        return seconds + " +" + seconds + " +" + hours + " +" + daysOrWeekdays
                + "(?: +" + items(numbers(1970, 2299)) + ")?";
    }

    private static String range(char base, int from, int to) {
        return (char) (base + from) + "-" + (char) (base + to);
    }

    private static String numbers(int from, int to) {
        return "[" + range(NUMBER, from, to) + "]";
    }

    private static String either(String... ways) {
        return "(?:" + String.join("|", ways) + ")";
    }

    private static String items(String value) {
        String item = "(?:\\*|" + value + "(?:-" + value + ")?)(?:/" + numbers(1, 99) + ")?";
        return "(?:" + item + "(?:," + item + ")*)";
    }

    private static int placeOf(String text) {
        StringBuilder tokens = new StringBuilder();
        List<Integer> starts = new ArrayList<>();
        for (int at = 0; at < text.length();) {
            starts.add(at);
            at += addToken(tokens, text, at);
        }
        starts.add(text.length());
        for (int k = 1; k <= tokens.length(); k++) {
            Matcher matcher = GRAMMAR.matcher(tokens.substring(0, k));
            boolean stands = matcher.matches() || matcher.hitEnd();
            if (!stands || isFallingYear(tokens, k - 1)) {
                return starts.get(k - 1);
            }
        }
        return GRAMMAR.matcher(tokens).matches() ? -1 : text.length();
    }

    private static boolean isFallingYear(CharSequence tokens, int k) {
        return k >= 2 && tokens.charAt(k - 1) == '-' && tokens.charAt(k) < tokens.charAt(k - 2)
                && tokens.charAt(k) >= NUMBER + 1970 && tokens.charAt(k - 2) <= NUMBER + 2299;
    }

    /** Answers how many bytes the token has. */
    private static int addToken(StringBuilder tokens, String text, int at) {
        Matcher number = Pattern.compile("0|[1-9][0-9]*").matcher(text).region(at, text.length());
        if (number.lookingAt()) {
            String digits = number.group();
            tokens.append((char) (NUMBER + (digits.length() > 4 ? 5000 : Math.min(5000, Integer.parseInt(digits)))));
            return digits.length();
        }
        boolean nameMayStand = tokens.length() == 0 || " ,-".indexOf(tokens.charAt(tokens.length() - 1)) >= 0;
        for (int k = 0; k < 19 && nameMayStand; k++) {
            if (text.startsWith(k < 12 ? MONTHS[k] : WEEKDAYS[k - 12], at)) {
                tokens.append((char) (NAME + k));
                return 3;
            }
        }
        tokens.append(text.charAt(at));
        return 1;
    }

    private static String spoil(String text) {
        StringBuilder spoilt = new StringBuilder(text);
        int changes = random.nextInt(4);
        String signs = " *,-/?LW#0123456789 *,-/?LW#0123456789JANFEBSUMONTx\u0000\u00e9\t";
        for (int k = 0; k < changes && spoilt.length() > 0; k++) {
            int at = random.nextInt(spoilt.length());
            int kind = random.nextInt(5);
            if (kind == 0) {
                spoilt.deleteCharAt(at);
            } else if (kind == 1) {
                spoilt.insert(at, signs.charAt(random.nextInt(signs.length())));
            } else if (kind == 2) {
                spoilt.setCharAt(at, signs.charAt(random.nextInt(signs.length())));
            } else if (kind == 3) {
                spoilt.append(signs.charAt(random.nextInt(signs.length())));
            } else if (random.nextInt(3) == 0) {
                spoilt.setLength(at);
            }
        }
        return spoilt.length() > 380 ? spoilt.substring(0, 380) : spoilt.toString();
    }

    private static void comparePlace(String text) {
        CronFinder finder = new CronFinder();
        int place = placeOf(text);
        Check.due("cron '" + text + "'", place < 0 ? "ok" : "throws." + Check.UOE, () -> Check.tell(finder, text));
        Check.due("place of '" + text + "'", place, finder::place);
    }
}
