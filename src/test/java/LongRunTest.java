/** "An object is used for at most 512 calls": all of them are answered as the first ones are. */
public final class LongRunTest {
    public static void main(String[] args) {
        manyCrons();
        manyBrokenCrons();
        manyHolidays();
        manyFeeds();
        Check.finish();
    }

    /** Four calls a round. */
    private static void manyCrons() {
        CronFinder finder = new CronFinder();
        for (int round = 0; round < 128; round++) {
            int second = round % 10;
            int day = 1 + round % 9;
            // "s 0 0 d 1 ? " and "1970"
            finder.feed('0' + second << 24 | 0x203020, 0x30200020 | '0' + day << 8, 0x31203F20, 0x31393730, 0);
            finder.end(16);
            Check.due("cron", "ok", () -> Check.read(finder));
            Check.due("round " + round, (day - 1) * 86400L + second, () -> finder.last(Check.LAST_TIME));
        }
    }

    /** Three calls a round behind the first three. */
    private static void manyBrokenCrons() {
        CronFinder finder = new CronFinder();
        // "0 0 0 L * ?"
        finder.feed(0x30203020, 0x30204C20, 0x2A203F20, 0, 0);
        finder.end(11);
        finder.cron();
        for (int round = 0; round < 169; round++) {
            int place = round % 20;
            byte[] text = "1,1,1,1,1,1,1,1,1,1,".getBytes();
            text[place] = 'x';
            int[] fours = new int[5];
            for (int k = 0; k < 20; k++) {
                fours[k / 4] = fours[k / 4] << 8 | text[k];
            }
            finder.feed(fours[0], fours[1], fours[2], fours[3], fours[4]);
            Check.throwsDue("cron", Check.UOE, () -> Check.read(finder));
            Check.due("place", place, finder::place);
        }
        Check.due("the cron before stays", "1970-01-31 00:00:00", () -> Check.when(finder.next(0)));
    }

    private static void manyHolidays() {
        CronFinder finder = new CronFinder();
        int count = 0;
        for (int k = 0; k < 200; k++) {
            int day = (int) (k * 48271L % 120530);
            int due = ++count;
            Check.due("add " + day, due, () -> finder.holiday(day, true));
        }
        for (int k = 0; k < 200; k += 2) {
            int day = (int) (k * 48271L % 120530);
            int due = --count;
            Check.due("remove " + day, due, () -> finder.holiday(day, false));
        }
        for (int k = 0; k < 100; k++) {
            int day = 120529 - k;
            int due = ++count;
            Check.due("add " + day, due, () -> finder.holiday(day, true));
        }
        Check.throwsDue("full", Check.IOOBE, () -> finder.holiday(0, true));
        Check.due("full, but there", 200, () -> finder.holiday(120529, true));
    }

    private static void manyFeeds() {
        CronFinder finder = new CronFinder();
        for (int round = 0; round < 24; round++) {
            for (int length = 20; length <= 400; length += 20) {
                int due = length;
                Check.due("feed", due, () -> finder.feed(-1, -1, -1, -1, -1));
            }
            Check.due("end", 0, () -> finder.end(0));
        }
    }
}
