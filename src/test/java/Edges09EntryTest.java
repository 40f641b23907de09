/** Promise 9: entries that are not, and parts that they don't have. */
public final class Edges09EntryTest {
    public static void main(String[] args) {
        noneIfThereIsNone();
        noneOnceItWent();
        anotherWhat();
        leastAndGreatest();
        Check.end();
    }

    private static void noneIfThereIsNone() {
        Check.sentence("NONE if there is none");
        RangeReaders x = new RangeReaders();
        Check.put(x, 3, 1, 2, 3, 4, 5);
        for (int n : new int[] {Integer.MIN_VALUE, -1, 1, 15, 16, 17, 32767, 32768, Integer.MAX_VALUE}) {
            noPart(x, n);
        }
    }

    private static void noPart(RangeReaders x, int n) {
        for (int what = 0; what <= 5; what++) {
            Check.due("entry(" + n + ", " + what + ")", x.entry(n, what), RangeReaders.NONE);
        }
    }

    private static void noneOnceItWent() {
        Check.sentence("NONE if there is none");
        RangeReaders x = new RangeReaders();
        for (int n = 0; n < 5; n++) {
            Check.put(x, n, 0, n + 1, 1, n + 1, 1);
        }
        x.remove(0);
        noPart(x, 0);
        x.drop(1);
        noPart(x, 1);
        x.delete(0, false, 3, 1);
        noPart(x, 2);
        x.rectangle(1, 1, 1, 1, 1);
        x.move(0, 3, 1);
        noPart(x, 3);
        x.insert(0, true, 1, 16384);
        noPart(x, 4);
    }

    private static void anotherWhat() {
        Check.sentence("NONE .. for another what");
        RangeReaders x = new RangeReaders();
        Check.put(x, 3, 1, 2, 3, 4, 5);
        for (int what : new int[] {Integer.MIN_VALUE, -1, 6, 7, Integer.MAX_VALUE}) {
            Check.due("entry(0, " + what + ")", x.entry(0, what), RangeReaders.NONE);
            Check.due("entry(1, " + what + ")", x.entry(1, what), RangeReaders.NONE);
        }
    }

    private static void leastAndGreatest() {
        Check.sentence("what 0 its sheet, 1 the upper row, 2 the left column, 3 the lower row, "
                + "4 the right column, 5 its owner");
        RangeReaders x = new RangeReaders();
        Check.put(x, 0, 0, 1, 1, 1, 1);
        Check.put(x, 16383, 7, Check.LAST_ROW, Check.LAST_COLUMN, Check.LAST_ROW, Check.LAST_COLUMN);
        int[] least = {0, 1, 1, 1, 1, 0};
        int[] greatest = {7, Check.LAST_ROW, Check.LAST_COLUMN, Check.LAST_ROW, Check.LAST_COLUMN, 16383};
        for (int what = 0; what <= 5; what++) {
            Check.due("entry(0, " + what + ")", x.entry(0, what), least[what]);
            Check.due("entry(1, " + what + ")", x.entry(1, what), greatest[what]);
        }
    }
}
