/** Promise 2. */
public final class FeedTest {
    public static void main(String[] args) {
        answersLength();
        putsHighestByteFirst();
        placeOfEachByte();
        takesEachByte();
        comesBehindWhatWasKept();
        refusesBeyondTheLimit();
        fullAtEachLength();
        otherCallsLeaveTheTape();
        Check.finish();
    }

    private static void answersLength() {
        CronFinder finder = new CronFinder();
        for (int length = 20; length <= 400; length += 20) {
            Check.due("feed", length, () -> finder.feed(-1, Integer.MIN_VALUE, 0, 1, Integer.MAX_VALUE));
        }
    }

    private static void putsHighestByteFirst() {
        CronFinder finder = new CronFinder();
        // "1 2 3 4 5 ? " and "1970" in the fourth int, "-198" in the fifth
        finder.feed(0x31203220, 0x33203420, 0x35203F20, 0x31393730, 0x2D313938);
        finder.feed(0x30000000, 0, 0, 0, 0);
        finder.end(21);
        Check.due("cron", "ok", () -> Check.read(finder));
        Check.due("next", "1970-05-04 03:02:01", () -> Check.when(finder.next(0)));
        Check.due("last", "1980-05-04 03:02:01", () -> Check.when(finder.last(Check.LAST_TIME)));
    }

    private static void refusesBeyondTheLimit() {
        CronFinder finder = new CronFinder();
        Check.type(finder, "* * * * * ?" + " ".repeat(370));
        Check.throwsDue("feed on 381", Check.IOOBE, () -> finder.feed(0, 0, 0, 0, 0));
        Check.due("nothing was changed", 381, () -> finder.end(381));
        Check.due("end", 380, () -> finder.end(380));
        Check.due("feed on 380", 400, () -> finder.feed(0x20202020, 0x20202020, 0x20202020, 0x20202020, 0x20202031));
        Check.throwsDue("feed on 400", Check.IOOBE, () -> finder.feed(0, 0, 0, 0, 0));
        Check.throwsDue("all 400 bytes are read", Check.UOE, () -> Check.read(finder));
        Check.due("place of the last byte", 399, finder::place);
        Check.due("feed on the empty tape", 20, () -> finder.feed(0, 0, 0, 0, 0));
    }

    private static int feedBytes(CronFinder finder, int[] bytes) {
        int[] fours = new int[5];
        for (int k = 0; k < 20; k++) {
            fours[k / 4] |= bytes[k] << (24 - k % 4 * 8);
        }
        return finder.feed(fours[0], fours[1], fours[2], fours[3], fours[4]);
    }

    /** "The 20 bytes of five ints, the highest of each first": the k-th byte is at the k-th place, in every feed. */
    private static void placeOfEachByte() {
        for (int wrong = 0; wrong < 400; wrong++) {
            CronFinder finder = new CronFinder();
            for (int feeds = 0; feeds < 20; feeds++) {
                int[] bytes = new int[20];
                for (int k = 0; k < 20; k++) {
                    int at = feeds * 20 + k;
                    bytes[k] = at == wrong ? 255 : at % 2 == 0 ? '1' : ',';
                }
                int length = feeds * 20 + 20;
                Check.due("feed", length, () -> feedBytes(finder, bytes));
            }
            Check.throwsDue("cron", Check.UOE, () -> Check.read(finder));
            Check.due("place of the wrong byte", wrong, finder::place);
        }
    }

    /** A byte above 127 makes an int below 0, and must not change the bytes beside it. */
    private static void takesEachByte() {
        String stand = "*0123456789";
        for (int sign = 0; sign < 256; sign++) {
            for (int at = 4; at < 8; at++) {
                int[] bytes = new int[20];
                for (int k = 0; k < 20; k++) {
                    bytes[k] = k == at ? sign : (k - at) % 2 == 0 ? '1' : ',';
                }
                bytes[0] = '1';
                bytes[1] = at % 2 == 0 ? ',' : '1';
                bytes[at + 1] = 255;
                CronFinder finder = new CronFinder();
                feedBytes(finder, bytes);
                Check.throwsDue("cron", Check.UOE, () -> Check.read(finder));
                Check.due("place with byte " + sign, stand.indexOf(sign) >= 0 ? at + 1 : at, finder::place);
            }
        }
    }

    private static void comesBehindWhatWasKept() {
        CronFinder finder = new CronFinder();
        Check.type(finder, "0 0 0 1 1 ? 2000 and more");
        finder.end(15);
        // "5" and what is cut off again
        Check.due("feed behind 15", 35, () -> finder.feed(0x35FFFFFF, -1, -1, -1, -1));
        finder.end(16);
        Check.due("cron", "ok", () -> Check.read(finder));
        Check.due("next", "2005-01-01 00:00:00", () -> Check.when(finder.next(0)));
    }

    /** "it would have more than 400": 380 bytes are the most that a feed can come behind. */
    private static void fullAtEachLength() {
        for (int length = 361; length <= 400; length++) {
            CronFinder finder = new CronFinder();
            Check.type(finder, "x".repeat(length));
            if (length <= 380) {
                int due = length + 20;
                Check.due("feed on " + length, due, () -> finder.feed(0, 0, 0, 0, 0));
            } else {
                Check.throwsDue("feed on " + length, Check.IOOBE, () -> finder.feed(0, 0, 0, 0, 0));
                Check.throwsDue("and once more", Check.IOOBE, () -> finder.feed(0, 0, 0, 0, 0));
                finder.end(380);
                Check.due("feed on 380", 400, () -> finder.feed(0, 0, 0, 0, 0));
            }
        }
    }

    /** "a call that reads THE TAPE leaves it empty": the others do not read it. */
    private static void otherCallsLeaveTheTape() {
        CronFinder finder = new CronFinder();
        Check.type(finder, "0 0 0 1 1 ? 2000");
        finder.next(0);
        finder.last(0);
        finder.later(0, 2);
        finder.is(0);
        finder.place();
        finder.holiday(0, true);
        finder.holiday(0, false);
        Check.due("length", 16, () -> finder.end(16));
        Check.due("cron", "ok", () -> Check.read(finder));
        Check.due("next", "2000-01-01 00:00:00", () -> Check.when(finder.next(0)));
        Check.due("feed on the empty tape", 20, () -> finder.feed(0, 0, 0, 0, 0));
        Check.throwsDue("broken", Check.UOE, () -> Check.read(finder));
        Check.due("feed on the empty tape again", 20, () -> finder.feed(0, 0, 0, 0, 0));
    }
}
