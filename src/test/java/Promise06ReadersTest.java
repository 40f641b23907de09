/** readers finds the entries that have a cell. */
public final class Promise06ReadersTest {
    private static final int ROWS = Check.LAST_ROW;
    private static final int COLUMNS = Check.LAST_COLUMN;

    public static void main(String[] args) {
        edges();
        order();
        wrongCells();
        Check.end();
    }

    private static void edges() {
        RangeReaders x = new RangeReaders();
        Check.put(x, 0, 1, 3, 5, 7, 9);
        for (int row = 1; row <= 9; row++) {
            for (int column = 3; column <= 11; column++) {
                int want = row >= 3 && row <= 7 && column >= 5 && column <= 9 ? 1 : 0;
                Check.due("readers(1, " + row + ", " + column + ")", x.readers(1, row, column), want);
                Check.due("met(0)", x.met(0), want == 1 ? 0 : RangeReaders.NONE);
            }
        }
        Check.due("readers on another sheet", x.readers(2, 4, 6), 0);
        Check.put(x, 0, 7, ROWS, COLUMNS, ROWS, COLUMNS);
        Check.due("readers of the last cell", x.readers(7, ROWS, COLUMNS), 1);
        Check.due("met(0)", x.met(0), 1);
    }

    private static void order() {
        RangeReaders x = new RangeReaders();
        for (int i = 0; i < 40; i++) {
            Check.put(x, 40 - i, 0, 40 - i, 1, 50, 1);
        }
        x.remove(3);
        x.remove(5);
        Check.put(x, 1, 0, 1, 1, 2, 2);
        Check.put(x, 1, 0, 37, 1, 37, 1);
        Check.due("readers(0, 36, 1)", x.readers(0, 36, 1), 35);
        Check.due("met(0)", x.met(0), 4);
        Check.due("met(1)", x.met(1), 6);
        Check.due("readers(0, 37, 1)", x.readers(0, 37, 1), 36);
        Check.due("met(0)", x.met(0), 4);
        Check.due("met(1)", x.met(1), 5);
        Check.due("met(35)", x.met(35), 39);
        Check.due("met(36)", x.met(36), RangeReaders.NONE);
        Check.due("readers(0, 2, 2)", x.readers(0, 2, 2), 1);
        Check.due("met", Check.met(x), "3");
    }

    private static void wrongCells() {
        RangeReaders x = new RangeReaders();
        Check.put(x, 0, 0, 1, 1, ROWS, COLUMNS);
        x.readers(0, 1, 1);
        int[][] wrong = {
            {-1, 1, 1}, {8, 1, 1}, {0, 0, 1}, {0, 1, 0}, {0, ROWS + 1, 1}, {0, 1, COLUMNS + 1},
            {Integer.MIN_VALUE, 1, 1}, {0, Integer.MIN_VALUE, 1}, {0, 1, Integer.MIN_VALUE},
            {Integer.MAX_VALUE, 1, 1}, {0, Integer.MAX_VALUE, 1}, {0, 1, Integer.MAX_VALUE},
        };
        for (int[] c : wrong) {
            String call = "readers(" + c[0] + ", " + c[1] + ", " + c[2] + ")";
            Check.badArgument(call, () -> x.readers(c[0], c[1], c[2]));
            Check.due("met after " + call, Check.met(x), "0");
        }
    }
}
