/**
 * Cron expressions: read with the place at which they are broken, and the next and the last date
 * and time of their meaning, days that are left out and last days, working days and ordinals
 * among them.
 */
public final class CronFinder {
    private static final int NONE = -1;
    private static final int TAPE_LIMIT = 400;
    private static final int FEED_SIZE = 20;
    private static final int HOLIDAY_LIMIT = 200;
    private static final int LATER_LIMIT = 100;
    private static final int DAY_SECONDS = 86400;
    private static final int LAST_DAY = 120529;
    private static final long LAST_TIME = 10413791999L;

    private final char[] tape;
    private int tapeLength;
    private Plan plan;
    /** A text is read into this one, so that a broken text leaves the plan in use alone. */
    private Plan spare;
    private int brokenAt;
    private final DaySet holidays;

    public CronFinder() {
        tape = new char[TAPE_LIMIT];
        tapeLength = 0;
        plan = new Plan();
        spare = new Plan();
        brokenAt = NONE;
        holidays = new DaySet(HOLIDAY_LIMIT);
    }

    public int feed(int a, int b, int c, int d, int e) throws IndexOutOfBoundsException {
        if (tapeLength + FEED_SIZE > TAPE_LIMIT) {
            throw new IndexOutOfBoundsException("the tape is full");
        }
        putBytes(a);
        putBytes(b);
        putBytes(c);
        putBytes(d);
        putBytes(e);
        return tapeLength;
    }

    public int end(int n) throws IllegalArgumentException {
        if (n < 0 || n > tapeLength) {
            throw new IllegalArgumentException("not a length of the tape");
        }
        tapeLength = n;
        return n;
    }

    public void cron() throws UnsupportedOperationException {
        brokenAt = new Reader(tape, tapeLength, spare).readText();
        tapeLength = 0;
        if (brokenAt != NONE) {
            throw new UnsupportedOperationException("the text is broken");
        }
        Plan before = plan;
        plan = spare;
        spare = before;
    }

    public int holiday(int day, boolean yes) throws IllegalArgumentException, IndexOutOfBoundsException {
        if (day < 0 || day > LAST_DAY) {
            throw new IllegalArgumentException("not a day");
        }
        if (!yes) {
            holidays.remove(day);
        } else if (!holidays.add(day)) {
            throw new IndexOutOfBoundsException("too many holidays");
        }
        return holidays.size();
    }

    public long next(long t) throws IllegalArgumentException {
        checkTime(t);
        return fireBehind(t);
    }

    public long last(long t) throws IllegalArgumentException {
        checkTime(t);
        return fireNotBehind(t);
    }

    public long later(long t, int n) throws IllegalArgumentException {
        checkTime(t);
        if (n < 1 || n > LATER_LIMIT) {
            throw new IllegalArgumentException("not a count of fires");
        }
        long found = t;
        for (int k = 0; k < n && found != NONE; k++) {
            found = fireBehind(found);
        }
        return found;
    }

    public boolean is(long t) throws IllegalArgumentException {
        checkTime(t);
        int day = (int) (t / DAY_SECONDS);
        int second = (int) (t % DAY_SECONDS);
        return plan.firesOn(day) && !holidays.has(day) && plan.secondFrom(second) == second;
    }

    public int place() {
        return brokenAt;
    }

    private void putBytes(int four) {
        for (int shift = 24; shift >= 0; shift -= 8) {
            tape[tapeLength] = (char) (four >>> shift & 255);
            tapeLength++;
        }
    }

    private void checkTime(long t) {
        if (t < 0 || t > LAST_TIME) {
            throw new IllegalArgumentException("not a time");
        }
    }

    private long fireBehind(long t) {
        if (t >= LAST_TIME) {
            return NONE;
        }
        long from = t + 1;
        int today = (int) (from / DAY_SECONDS);
        int day = firingDayFrom(today);
        if (day == today) {
            int second = plan.secondFrom((int) (from % DAY_SECONDS));
            if (second != NONE) {
                return timeOf(day, second);
            }
            day = firingDayFrom(today + 1);
        }
        return day == NONE ? NONE : timeOf(day, plan.secondFrom(0));
    }

    private long fireNotBehind(long t) {
        int today = (int) (t / DAY_SECONDS);
        int day = firingDayBackFrom(today);
        if (day == today) {
            int second = plan.secondBackFrom((int) (t % DAY_SECONDS));
            if (second != NONE) {
                return timeOf(day, second);
            }
            day = firingDayBackFrom(today - 1);
        }
        return day == NONE ? NONE : timeOf(day, plan.secondBackFrom(DAY_SECONDS - 1));
    }

    private long timeOf(int day, int second) {
        return (long) day * DAY_SECONDS + second;
    }

    private int firingDayFrom(int day) {
        if (day > LAST_DAY) {
            return NONE;
        }
        for (int month = Dates.monthOf(day); month < Dates.MONTHS; month++) {
            int bits = plan.daysOf(month);
            if (bits != 0) {
                int start = Dates.startOfMonth(month);
                for (int k = Math.max(day - start, 0); k < 31; k++) {
                    if ((bits >>> k & 1) != 0 && !holidays.has(start + k)) {
                        return start + k;
                    }
                }
            }
        }
        return NONE;
    }

    private int firingDayBackFrom(int day) {
        if (day < 0) {
            return NONE;
        }
        for (int month = Dates.monthOf(day); month >= 0; month--) {
            int bits = plan.daysOf(month);
            if (bits != 0) {
                int start = Dates.startOfMonth(month);
                for (int k = Math.min(day - start, 30); k >= 0; k--) {
                    if ((bits >>> k & 1) != 0 && !holidays.has(start + k)) {
                        return start + k;
                    }
                }
            }
        }
        return NONE;
    }

    /** The Gregorian calendar; months are numbered from 0 for January 1970, weekdays from 1 for Sunday. */
    private static final class Dates {
        static final int FIRST_YEAR = 1970;
        static final int LAST_YEAR = 2299;
        static final int MONTHS = 3960;
        /** How many leap years the calendar has up to 1969. */
        private static final int LEAPS_BEFORE = 477;
        private static final int[] DAYS_BEFORE_MONTH = {0, 31, 59, 90, 120, 151, 181, 212, 243, 273, 304, 334};

        private Dates() {
        }

        static int yearOfMonth(int month) {
            return FIRST_YEAR + month / 12;
        }

        static int startOfMonth(int month) {
            int year = yearOfMonth(month);
            int inYear = Math.floorMod(month, 12);
            int leapDay = inYear >= 2 && isLeap(year) ? 1 : 0;
            return startOfYear(year) + DAYS_BEFORE_MONTH[inYear] + leapDay;
        }

        static int lengthOfMonth(int month) {
            return startOfMonth(month + 1) - startOfMonth(month);
        }

        static int monthOf(int day) {
            int month = (yearOf(day) - FIRST_YEAR) * 12;
            for (int k = 0; k < 11 && startOfMonth(month + 1) <= day; k++) {
                month++;
            }
            return month;
        }

        static int weekdayOf(int day) {
            return (day + 4) % 7 + 1;
        }

        private static int yearOf(int day) {
            int year = FIRST_YEAR + day / 366;
            while (year < LAST_YEAR && startOfYear(year + 1) <= day) {
                year++;
            }
            return year;
        }

        private static int startOfYear(int year) {
            int before = year - 1;
            int leaps = before / 4 - before / 100 + before / 400 - LEAPS_BEFORE;
            return (year - FIRST_YEAR) * 365 + leaps;
        }

        private static boolean isLeap(int year) {
            return year % 4 == 0 && (year % 100 != 0 || year % 400 == 0);
        }
    }

    /** Days in rising order, up to a limit. */
    private static final class DaySet {
        private final int[] days;
        private int count;

        DaySet(int limit) {
            days = new int[limit];
            count = 0;
        }

        int size() {
            return count;
        }

        boolean has(int day) {
            int index = indexOf(day);
            return index < count && days[index] == day;
        }

        /** Answers false, and changes nothing, where there would be too many. */
        boolean add(int day) {
            if (has(day)) {
                return true;
            }
            if (count >= days.length) {
                return false;
            }
            int index = indexOf(day);
            System.arraycopy(days, index, days, index + 1, count - index);
            days[index] = day;
            count++;
            return true;
        }

        void remove(int day) {
            if (has(day)) {
                int index = indexOf(day);
                System.arraycopy(days, index + 1, days, index, count - index - 1);
                count--;
            }
        }

        /** How many of the days are below the given one. */
        private int indexOf(int day) {
            int below = 0;
            for (int step = Integer.highestOneBit(days.length); step > 0; step /= 2) {
                int index = below + step;
                if (index <= count && days[index - 1] < day) {
                    below = index;
                }
            }
            return below;
        }
    }

    /** Which numbers from a first one to a last one a field allows. */
    private static final class Row {
        private final int first;
        private final int highest;
        private final boolean[] allowed;

        Row(int first, int highest) {
            this.first = first;
            this.highest = highest;
            allowed = new boolean[highest - first + 1];
        }

        int first() {
            return first;
        }

        int highest() {
            return highest;
        }

        void clear() {
            for (int k = 0; k < allowed.length; k++) {
                allowed[k] = false;
            }
        }

        void allowAll() {
            allow(first, highest, 1);
        }

        /** Goes round behind the highest where from is above to, and steps on over that place. */
        void allow(int from, int to, int step) {
            int size = allowed.length;
            int count = Math.floorMod(to - from, size) + 1;
            int start = from - first;
            for (int k = 0; k < count; k += Math.max(step, 1)) {
                allowed[Math.floorMod(start + k, size)] = true;
            }
        }

        boolean has(int number) {
            return number >= first && number <= highest && allowed[number - first];
        }

        int from(int number) {
            for (int k = Math.max(number, first); k <= highest; k++) {
                if (allowed[k - first]) {
                    return k;
                }
            }
            return NONE;
        }

        int backFrom(int number) {
            for (int k = Math.min(number, highest); k >= first; k--) {
                if (allowed[k - first]) {
                    return k;
                }
            }
            return NONE;
        }
    }

    /** How the days of a month are chosen. */
    private enum DayRule {
        LISTED_DAYS, BEFORE_LAST_DAY, LAST_WORKDAY, NEAREST_WORKDAY, LISTED_WEEKDAYS, LAST_WEEKDAY, ORDINAL_WEEKDAY
    }

    /** What a text means; a new one allows no year, so it never fires. */
    private static final class Plan {
        private final Row seconds;
        private final Row minutes;
        private final Row hours;
        private final Row days;
        private final Row months;
        private final Row weekdays;
        private final Row years;
        private DayRule rule;
        /** The day or weekday that the rule is about, or the days before the last one. */
        private int subject;
        private int ordinal;
        /** The listed days, the first day as the lowest bit. */
        private int dayBits;

        Plan() {
            seconds = new Row(0, 59);
            minutes = new Row(0, 59);
            hours = new Row(0, 23);
            days = new Row(1, 31);
            months = new Row(1, 12);
            weekdays = new Row(1, 7);
            years = new Row(Dates.FIRST_YEAR, Dates.LAST_YEAR);
            rule = DayRule.LISTED_DAYS;
            subject = 0;
            ordinal = 0;
            dayBits = 0;
        }

        void clear() {
            for (int field = 0; field < Reader.FIELDS; field++) {
                row(field).clear();
            }
            choose(DayRule.LISTED_DAYS, 0, 0);
        }

        Row row(int field) {
            switch (field) {
                case 0:
                    return seconds;
                case 1:
                    return minutes;
                case 2:
                    return hours;
                case Reader.DAY:
                    return days;
                case Reader.MONTH:
                    return months;
                case Reader.WEEKDAY:
                    return weekdays;
                default:
                    return years;
            }
        }

        /** Keeps the listed days as bits, for a search may look at some thousand months. */
        void seal() {
            dayBits = 0;
            for (int day = 1; day <= 31; day++) {
                if (days.has(day)) {
                    dayBits |= 1 << (day - 1);
                }
            }
        }

        void choose(DayRule newRule, int newSubject, int newOrdinal) {
            rule = newRule;
            subject = newSubject;
            ordinal = newOrdinal;
        }

        /** The first second of a day at which the plan fires, not before the given one. */
        int secondFrom(int second) {
            int hour = second / 3600;
            int minute = second / 60 % 60;
            if (hours.has(hour)) {
                int inMinute = minutes.has(minute) ? seconds.from(second % 60) : NONE;
                if (inMinute != NONE) {
                    return secondOf(hour, minute, inMinute);
                }
                int nextMinute = minutes.from(minute + 1);
                if (nextMinute != NONE) {
                    return secondOf(hour, nextMinute, seconds.from(0));
                }
            }
            int nextHour = hours.from(hour + 1);
            return nextHour == NONE ? NONE : secondOf(nextHour, minutes.from(0), seconds.from(0));
        }

        /** The last second of a day at which the plan fires, not behind the given one. */
        int secondBackFrom(int second) {
            int hour = second / 3600;
            int minute = second / 60 % 60;
            if (hours.has(hour)) {
                int inMinute = minutes.has(minute) ? seconds.backFrom(second % 60) : NONE;
                if (inMinute != NONE) {
                    return secondOf(hour, minute, inMinute);
                }
                int minuteBefore = minutes.backFrom(minute - 1);
                if (minuteBefore != NONE) {
                    return secondOf(hour, minuteBefore, seconds.backFrom(59));
                }
            }
            int hourBefore = hours.backFrom(hour - 1);
            return hourBefore == NONE ? NONE : secondOf(hourBefore, minutes.backFrom(59), seconds.backFrom(59));
        }

        private int secondOf(int hour, int minute, int second) {
            return (hour * 60 + minute) * 60 + second;
        }

        boolean firesOn(int day) {
            int month = Dates.monthOf(day);
            return (daysOf(month) >>> (day - Dates.startOfMonth(month)) & 1) != 0;
        }

        /** The days of a month on which the plan fires, the first day as the lowest bit. */
        int daysOf(int month) {
            if (!years.has(Dates.yearOfMonth(month)) || !months.has(month % 12 + 1)) {
                return 0;
            }
            int length = Dates.lengthOfMonth(month);
            int weekday = Dates.weekdayOf(Dates.startOfMonth(month));
            switch (rule) {
                case LISTED_DAYS:
                    return dayBits & (1 << length) - 1;
                case BEFORE_LAST_DAY:
                    return dayBit(length - subject, length);
                case LAST_WORKDAY:
                    return dayBit(nearestWorkday(length, weekday, length), length);
                case NEAREST_WORKDAY:
                    return subject > length ? 0 : dayBit(nearestWorkday(subject, weekday, length), length);
                case LISTED_WEEKDAYS:
                    return listedWeekdays(weekday, length);
                case LAST_WEEKDAY:
                    return dayBit(lastSubject(weekday, length), length);
                default:
                    return dayBit(firstSubject(weekday) + (ordinal - 1) * 7, length);
            }
        }

        private int dayBit(int day, int length) {
            return day < 1 || day > length ? 0 : 1 << (day - 1);
        }

        private int listedWeekdays(int firstWeekday, int length) {
            int bits = 0;
            for (int day = 1; day <= length; day++) {
                if (weekdays.has(weekdayIn(day, firstWeekday))) {
                    bits |= dayBit(day, length);
                }
            }
            return bits;
        }

        private int weekdayIn(int day, int firstWeekday) {
            return (firstWeekday + day - 2) % 7 + 1;
        }

        private int nearestWorkday(int day, int firstWeekday, int length) {
            int weekday = weekdayIn(day, firstWeekday);
            if (weekday == 7) {
                return day > 1 ? day - 1 : day + 2;
            }
            if (weekday == 1) {
                return day < length ? day + 1 : day - 2;
            }
            return day;
        }

        private int firstSubject(int firstWeekday) {
            return 1 + Math.floorMod(subject - firstWeekday, 7);
        }

        private int lastSubject(int firstWeekday, int length) {
            return length - Math.floorMod(weekdayIn(length, firstWeekday) - subject, 7);
        }
    }

    /** Reads a text into a plan. Where a method answers false, the reader stands at the broken place. */
    private static final class Reader {
        static final int FIELDS = 7;
        static final int DAY = 3;
        static final int MONTH = 4;
        static final int WEEKDAY = 5;
        static final int YEAR = 6;
        private static final int SATURDAY = 7;
        private static final String MONTH_NAMES = "JANFEBMARAPRMAYJUNJULAUGSEPOCTNOVDEC";
        private static final String WEEKDAY_NAMES = "SUNMONTUEWEDTHUFRISAT";
        private static final int NAME_LENGTH = 3;
        /** Above every range, and small enough to take one digit more. */
        private static final int TOO_MUCH = 10000;

        private final char[] text;
        private final int length;
        private final Plan plan;
        private int at;
        /** The number or name read last. */
        private int value;
        private boolean dayIsOpen;

        Reader(char[] text, int length, Plan plan) {
            this.text = text;
            this.length = length;
            this.plan = plan;
            at = 0;
            value = 0;
            dayIsOpen = false;
        }

        /** Answers the place at which the text is broken, or NONE. */
        int readText() {
            plan.clear();
            for (int field = 0; field < FIELDS; field++) {
                if (field == YEAR && at == length) {
                    plan.row(YEAR).allowAll();
                    break;
                }
                if (field > 0 && !readBlanks()) {
                    return at;
                }
                boolean good = field == DAY ? readDay() : field == WEEKDAY ? readWeekday() : readItems(field);
                if (!good) {
                    return at;
                }
            }
            plan.seal();
            return at == length ? NONE : at;
        }

        private boolean readBlanks() {
            int start = at;
            while (at < length && text[at] == ' ') {
                at++;
            }
            return at > start;
        }

        private boolean readDay() {
            if (accept('?')) {
                dayIsOpen = true;
                return true;
            }
            if (accept('L')) {
                return readLastDay();
            }
            int start = at;
            if (readValue(DAY) && accept('W')) {
                plan.choose(DayRule.NEAREST_WORKDAY, value, 0);
                return true;
            }
            at = start;
            return readItems(DAY);
        }

        private boolean readLastDay() {
            if (accept('W')) {
                plan.choose(DayRule.LAST_WORKDAY, 0, 0);
                return true;
            }
            if (!accept('-')) {
                plan.choose(DayRule.BEFORE_LAST_DAY, 0, 0);
                return true;
            }
            if (!readNumber(1, 30)) {
                return false;
            }
            plan.choose(DayRule.BEFORE_LAST_DAY, value, 0);
            return true;
        }

        private boolean readWeekday() {
            if (!dayIsOpen) {
                return accept('?');
            }
            plan.choose(DayRule.LISTED_WEEKDAYS, 0, 0);
            if (accept('L')) {
                plan.row(WEEKDAY).allow(SATURDAY, SATURDAY, 1);
                return true;
            }
            int start = at;
            if (readValue(WEEKDAY)) {
                if (accept('L')) {
                    plan.choose(DayRule.LAST_WEEKDAY, value, 0);
                    return true;
                }
                if (accept('#')) {
                    return readOrdinal(value);
                }
            }
            at = start;
            return readItems(WEEKDAY);
        }

        private boolean readOrdinal(int weekday) {
            if (!readNumber(1, 5)) {
                return false;
            }
            plan.choose(DayRule.ORDINAL_WEEKDAY, weekday, value);
            return true;
        }

        private boolean readItems(int field) {
            for (int items = 0; items < length; items++) {
                if (!readItem(field)) {
                    return false;
                }
                if (!accept(',')) {
                    return true;
                }
            }
            return false;
        }

        private boolean readItem(int field) {
            Row row = plan.row(field);
            int from = row.first();
            int to = row.highest();
            if (!accept('*')) {
                if (!readValue(field)) {
                    return false;
                }
                from = value;
                if (accept('-')) {
                    int start = at;
                    if (!readValue(field)) {
                        return false;
                    }
                    to = value;
                    if (field == YEAR && from > to) {
                        at = start;
                        return false;
                    }
                } else if (!sees('/')) {
                    to = from;
                }
            }
            int step = 1;
            if (accept('/')) {
                if (!readNumber(1, 99)) {
                    return false;
                }
                step = value;
            }
            row.allow(from, to, step);
            return true;
        }

        private boolean readValue(int field) {
            if (field == MONTH && readName(MONTH_NAMES) || field == WEEKDAY && readName(WEEKDAY_NAMES)) {
                return true;
            }
            Row row = plan.row(field);
            return readNumber(row.first(), row.highest());
        }

        /** The names count from 1. */
        private boolean readName(String names) {
            if (length - at < NAME_LENGTH) {
                return false;
            }
            for (int k = 0; k + NAME_LENGTH <= names.length(); k += NAME_LENGTH) {
                if (text[at] == names.charAt(k) && text[at + 1] == names.charAt(k + 1)
                        && text[at + 2] == names.charAt(k + 2)) {
                    at += NAME_LENGTH;
                    value = k / NAME_LENGTH + 1;
                    return true;
                }
            }
            return false;
        }

        /** A 0 in front is the whole number, so that the digit behind it is what can not stand. */
        private boolean readNumber(int lowest, int highest) {
            int start = at;
            int number = 0;
            while (at < length && text[at] >= '0' && text[at] <= '9' && (at == start || number > 0)) {
                number = Math.min(number * 10 + text[at] - '0', TOO_MUCH);
                at++;
            }
            if (at == start || number < lowest || number > highest) {
                at = start;
                return false;
            }
            value = number;
            return true;
        }

        private boolean sees(char sign) {
            return at < length && text[at] == sign;
        }

        private boolean accept(char sign) {
            if (!sees(sign)) {
                return false;
            }
            at++;
            return true;
        }
    }
}
