import java.util.ArrayList;
import java.util.BitSet;
import java.util.List;

/** Terms: what *, V, V - W, V / N and / N mean, for each field, wraps among them. */
public final class RowsTest {
    private static final String[] FRONT = {"", "0 ", "0 0 ", "0 0 0 ", "0 0 0 1 ", "0 0 0 ? 1 ", "0 0 0 1 1 ? "};
    private static final String[] BEHIND = {" 0 0 1 1 ? 1970", " 0 1 1 ? 1970", " 1 1 ? 1970", " 1 ? 1970", " ? 1970",
        " 1970", ""};
    private static final int[] LOWEST = {0, 0, 0, 1, 1, 1, 1970};
    private static final int[] HIGHEST = {59, 59, 23, 31, 12, 7, 2299};
    private static final int[] STEPS = {1, 2, 3, 7, 30, 98, 99};

    public static void main(String[] args) {
        for (int field = 0; field < 7; field++) {
            all(field);
            fromOneOn(field);
            fromOneToAnother(field);
        }
        fallingYears();
        severalItems();
        Check.finish();
    }

    /** The time at which a number of a field, and the lowest ones of all others, meet in 1970. */
    private static long timeOf(int field, int number) {
        switch (field) {
            case 0:
                return number;
            case 1:
                return number * 60L;
            case 2:
                return number * 3600L;
            case 3:
                return (number - 1) * 86400L;
            case 4:
                return Check.time(String.format("1970-%02d-01", number));
            case 5:
                // DAY 3 is the first Sunday
                return (number + 2) * 86400L;
            default:
                return Check.time(number + "-01-01");
        }
    }

    private static void due(int field, String what, List<Integer> row, int step) {
        BitSet want = new BitSet();
        for (int k = 0; k < row.size(); k += step) {
            want.set(row.get(k));
        }
        due(field, what, want);
    }

    private static void due(int field, String what, BitSet want) {
        String text = FRONT[field] + what + BEHIND[field];
        CronFinder finder = Check.finder(text);
        BitSet got = new BitSet();
        for (int number = LOWEST[field]; number <= HIGHEST[field]; number++) {
            got.set(number, finder.is(timeOf(field, number)));
        }
        Check.due("fires of '" + text + "'", want, () -> got);
    }

    private static List<Integer> row(int from, int to) {
        List<Integer> row = new ArrayList<>();
        for (int k = from; k <= to; k++) {
            row.add(k);
        }
        return row;
    }

    /** "* is all", "/ N: each N-th of them, from the first on" */
    private static void all(int field) {
        due(field, "*", row(LOWEST[field], HIGHEST[field]), 1);
        for (int step = 1; step <= 99; step++) {
            due(field, "*/" + step, row(LOWEST[field], HIGHEST[field]), step);
        }
    }

    /** "V / N: from V to the last"; V alone is V. */
    private static void fromOneOn(int field) {
        for (int v = LOWEST[field]; v <= HIGHEST[field]; v++) {
            due(field, String.valueOf(v), row(v, v), 1);
            for (int step : STEPS) {
                due(field, v + "/" + step, row(v, HIGHEST[field]), step);
            }
        }
    }

    /** "V - W from V to W, if V is above W: from V to the last and then from the first to W, as one row" */
    private static void fromOneToAnother(int field) {
        for (int v = LOWEST[field]; v <= HIGHEST[field]; v += field == 6 ? 47 : 1) {
            for (int w = field == 6 ? v : LOWEST[field]; w <= HIGHEST[field]; w++) {
                List<Integer> row = row(v, v <= w ? w : HIGHEST[field]);
                if (v > w) {
                    row.addAll(row(LOWEST[field], w));
                }
                due(field, v + "-" + w, row, 1);
                int step = STEPS[(v + w) % STEPS.length];
                due(field, v + "-" + w + "/" + step, row, step);
            }
        }
    }

    /** "(years: broken at W)" */
    private static void fallingYears() {
        for (int v = 1970; v <= 2299; v++) {
            Check.good("0 0 0 1 1 ? " + v + "-" + v);
            Check.good("0 0 0 1 1 ? " + v + "-2299/99");
            if (v > 1970) {
                Check.broken("0 0 0 1 1 ? " + v + "-" + (v - 1), 17);
                Check.broken("0 0 0 1 1 ? " + v + "-1970/2", 17);
                Check.broken("0 0 0 1 1 ? *," + v + "-" + (v - 1) + ",x", 19);
            }
        }
    }

    private static void severalItems() {
        BitSet want = new BitSet();
        want.set(0);
        want.set(3);
        want.set(30, 33);
        want.set(58);
        due(0, "3,30-32,58-1/2,3", want);
        due(1, "58-1/2,3-3,31,30,32/99", want);
        StringBuilder all = new StringBuilder("0");
        for (int k = 1; k <= 59; k++) {
            all.append(',').append(k);
        }
        due(0, all.toString(), row(0, 59), 1);
        due(1, "*,0" + ",0".repeat(150), row(0, 59), 1);
        due(2, "0" + ",23".repeat(110), bits(0, 23));
        due(5, "7,*/5", bits(1, 6, 7));
        due(6, "2299,1970,2000-2001", bits(1970, 2000, 2001, 2299));
    }

    private static BitSet bits(int... numbers) {
        BitSet bits = new BitSet();
        for (int number : numbers) {
            bits.set(number);
        }
        return bits;
    }
}
