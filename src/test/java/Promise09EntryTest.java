/** entry tells the parts of an entry. */
public final class Promise09EntryTest {
    public static void main(String[] args) {
        RangeReaders x = new RangeReaders();
        Check.put(x, 6, 1, 2, 3, 4, 5);
        Check.put(x, 16383, 7, 1, 1, Check.LAST_ROW, Check.LAST_COLUMN);
        int[] first = {1, 2, 3, 4, 5, 6};
        int[] second = {7, 1, 1, Check.LAST_ROW, Check.LAST_COLUMN, 16383};
        for (int what = 0; what < 6; what++) {
            Check.due("entry(0, " + what + ")", x.entry(0, what), first[what]);
            Check.due("entry(1, " + what + ")", x.entry(1, what), second[what]);
        }
        for (int what : new int[] {Integer.MIN_VALUE, -1, 6, 7, Integer.MAX_VALUE}) {
            Check.due("entry(0, " + what + ")", x.entry(0, what), RangeReaders.NONE);
        }
        for (int n : new int[] {Integer.MIN_VALUE, -1, 2, 15, 16, 511, 32768, Integer.MAX_VALUE}) {
            for (int what = -1; what <= 6; what++) {
                Check.due("entry(" + n + ", " + what + ")", x.entry(n, what), RangeReaders.NONE);
            }
        }
        x.remove(0);
        for (int what = 0; what < 6; what++) {
            Check.due("entry(0, " + what + ") when it is gone", x.entry(0, what), RangeReaders.NONE);
        }
        Check.end();
    }
}
