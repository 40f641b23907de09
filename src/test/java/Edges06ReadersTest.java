/** Promise 6: cells at the edges of a rectangle and of a sheet, and cells that are not. */
public final class Edges06ReadersTest {
    private static final int ROWS = Check.LAST_ROW;
    private static final int COLUMNS = Check.LAST_COLUMN;

    public static void main(String[] args) {
        edgesOfTheRectangle();
        cornersOfTheSheet();
        nobodyReads();
        noSuchCell();
        Check.end();
    }

    private static void edgesOfTheRectangle() {
        Check.sentence("The entries whose rectangles have the cell are MET");
        RangeReaders x = new RangeReaders();
        Check.put(x, 0, 0, 10, 20, 12, 24);
        int[][] inside = {{10, 20}, {10, 24}, {12, 20}, {12, 24}, {11, 22}};
        for (int[] c : inside) {
            Check.due("readers inside, at " + c[0] + "," + c[1], x.readers(0, c[0], c[1]), 1);
        }
        int[][] outside = {{9, 20}, {9, 24}, {13, 20}, {13, 24}, {10, 19}, {12, 19}, {10, 25}, {12, 25}};
        for (int[] c : outside) {
            Check.due("readers outside, at " + c[0] + "," + c[1], x.readers(0, c[0], c[1]), 0);
        }
        Check.due("readers on the sheet behind", x.readers(1, 11, 22), 0);
    }

    private static void cornersOfTheSheet() {
        Check.sentence("The entries whose rectangles have the cell are MET");
        RangeReaders x = new RangeReaders();
        Check.put(x, 0, 0, 1, 1, ROWS, COLUMNS);
        Check.put(x, 0, 0, ROWS, COLUMNS, ROWS, COLUMNS);
        Check.due("the first cell", x.readers(0, 1, 1), 1);
        Check.due("the upper right cell", x.readers(0, 1, COLUMNS), 1);
        Check.due("the lower left cell", x.readers(0, ROWS, 1), 1);
        Check.due("the last cell", x.readers(0, ROWS, COLUMNS), 2);
    }

    private static void nobodyReads() {
        Check.sentence("how many");
        RangeReaders x = new RangeReaders();
        Check.put(x, 0, 0, 5, 5, 5, 5);
        Check.due("readers(0, 5, 5)", x.readers(0, 5, 5), 1);
        Check.due("readers(0, 5, 6)", x.readers(0, 5, 6), 0);
        Check.due("met(0) then", x.met(0), RangeReaders.NONE);
    }

    private static void noSuchCell() {
        Check.sentence("IllegalArgumentException: there is no such cell");
        RangeReaders x = new RangeReaders();
        Check.put(x, 0, 0, 1, 1, ROWS, COLUMNS);
        x.meet();
        int[][] none = {
            {-1, 1, 1}, {8, 1, 1}, {0, 0, 1}, {0, ROWS + 1, 1}, {0, 1, 0}, {0, 1, COLUMNS + 1},
            {Integer.MIN_VALUE, 1, 1}, {Integer.MAX_VALUE, 1, 1}, {0, Integer.MIN_VALUE, 1},
            {0, Integer.MAX_VALUE, 1}, {0, 1, Integer.MIN_VALUE}, {0, 1, Integer.MAX_VALUE},
        };
        for (int[] c : none) {
            String call = "readers(" + c[0] + ", " + c[1] + ", " + c[2] + ")";
            Check.badArgument(x, call, () -> x.readers(c[0], c[1], c[2]));
        }
    }
}
