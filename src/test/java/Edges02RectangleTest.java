/** Promise 2: refused rectangles, and what stays then. */
public final class Edges02RectangleTest {
    private static final int ROWS = Check.LAST_ROW;
    private static final int COLUMNS = Check.LAST_COLUMN;

    /** One number of each is out of its bounds, or a pair is the wrong way round. */
    private static final int[][] NONE_SUCH = {
        {-1, 1, 1, 2, 2}, {8, 1, 1, 2, 2}, {0, 0, 1, 2, 2}, {0, 1, 0, 2, 2},
        {0, 1, 1, ROWS + 1, 2}, {0, 1, 1, 2, COLUMNS + 1}, {0, 3, 1, 2, 2}, {0, 1, 3, 2, 2},
        {0, 1, 1, 0, 2}, {0, 1, 1, 2, 0}, {0, ROWS + 1, 1, ROWS + 2, 2},
        {0, 1, COLUMNS + 1, 2, COLUMNS + 2}, {0, -2, -2, -1, -1}, {0, ROWS, COLUMNS, 1, 1},
    };

    public static void main(String[] args) {
        falseIfNoneSuch();
        theOneBeforeStays();
        atFirstNoneIs();
        smallestAndLargest();
        Check.end();
    }

    private static boolean give(RangeReaders x, int[] r) {
        return x.rectangle(r[0], r[1], r[2], r[3], r[4]);
    }

    private static void falseIfNoneSuch() {
        Check.sentence("false if there is none such");
        for (int i = 0; i < NONE_SUCH.length; i++) {
            RangeReaders x = new RangeReaders();
            Check.due("rectangle " + i, give(x, NONE_SUCH[i]), false);
        }
    }

    private static void theOneBeforeStays() {
        Check.sentence("then the one before stays");
        RangeReaders x = new RangeReaders();
        x.rectangle(6, 11, 12, 13, 14);
        for (int i = 0; i < NONE_SUCH.length; i++) {
            give(x, NONE_SUCH[i]);
            int n = x.add(0);
            Check.due("the rectangle after " + i, Check.area(x, n), "6: 11,12 .. 13,14");
        }
        x.rectangle(5, 1, 1, 1, 1);
        give(x, NONE_SUCH[0]);
        Check.due("meet() with the latest that was taken", x.meet(), 0);
    }

    private static void atFirstNoneIs() {
        Check.sentence("at first none is");
        RangeReaders x = new RangeReaders();
        noneIs(x);
        for (int[] r : NONE_SUCH) {
            give(x, r);
            noneIs(x);
        }
    }

    private static void noneIs(RangeReaders x) {
        Check.badArgument("add(0)", () -> x.add(0));
        Check.badState("meet()", () -> x.meet());
        Check.badState("move(0, 1, 1)", () -> x.move(0, 1, 1));
    }

    private static void smallestAndLargest() {
        Check.sentence("its upper row, left column, lower row, right column");
        RangeReaders x = new RangeReaders();
        Check.put(x, 0, 0, 1, 1, 1, 1);
        Check.put(x, 0, 7, ROWS, COLUMNS, ROWS, COLUMNS);
        Check.put(x, 0, 3, 1, 1, ROWS, COLUMNS);
        Check.due("the first cell", Check.area(x, 0), "0: 1,1 .. 1,1");
        Check.due("the last cell", Check.area(x, 1), "7: 1048576,16384 .. 1048576,16384");
        Check.due("a whole sheet", Check.area(x, 2), "3: 1,1 .. 1048576,16384");
    }
}
