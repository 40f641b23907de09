/** insert moves, lengthens and cuts off, on one sheet and along one direction. */
public final class Promise11InsertTest {
    private static final int ROWS = Check.LAST_ROW;
    private static final int COLUMNS = Check.LAST_COLUMN;

    public static void main(String[] args) {
        rows(1, 4, 6, 3, "7 .. 9", 1);
        rows(4, 4, 6, 3, "7 .. 9", 1);
        rows(5, 4, 6, 3, "4 .. 9", 1);
        rows(6, 4, 6, 3, "4 .. 9", 1);
        rows(7, 4, 6, 3, "4 .. 6", 0);
        rows(1, 1, 1, 16384, "16385 .. 16385", 1);
        rows(5, ROWS - 3, ROWS - 1, 1, "1048574 .. 1048576", 1);
        rows(5, ROWS - 3, ROWS - 1, 2, "1048575 .. 1048576", 1);
        rows(5, ROWS - 3, ROWS - 1, 3, "1048576 .. 1048576", 1);
        rows(5, ROWS - 3, ROWS - 1, 4, "none", 1);
        rows(ROWS - 2, ROWS - 3, ROWS - 1, 500, "1048573 .. 1048576", 1);
        rows(ROWS, ROWS, ROWS, 1, "none", 1);
        rows(ROWS, ROWS - 1, ROWS, 1, "1048575 .. 1048576", 0);
        rows(5, 2, ROWS, 7, "2 .. 1048576", 0);
        rows(2, 2, ROWS, 7, "9 .. 1048576", 1);
        rows(1, 1, ROWS, 7, "1 .. 1048576", 0);
        rows(9, 1, ROWS, 16384, "1 .. 1048576", 0);
        rows(9, 1, ROWS - 1, 1, "1 .. 1048576", 1);
        columns(1, 4, 6, 3, "7 .. 9", 1);
        columns(4, 4, 6, 3, "7 .. 9", 1);
        columns(5, 4, 6, 3, "4 .. 9", 1);
        columns(6, 4, 6, 3, "4 .. 9", 1);
        columns(7, 4, 6, 3, "4 .. 6", 0);
        columns(5, COLUMNS - 3, COLUMNS - 1, 2, "16383 .. 16384", 1);
        columns(5, COLUMNS - 3, COLUMNS - 1, 4, "none", 1);
        columns(1, 1, 1, 16384, "none", 1);
        columns(2, 1, 2, 16384, "1 .. 16384", 1);
        columns(5, 2, COLUMNS, 7, "2 .. 16384", 0);
        columns(1, 1, COLUMNS, 7, "1 .. 16384", 0);
        columns(9, 1, COLUMNS, 16384, "1 .. 16384", 0);
        allOfTheOtherDirection();
        several();
        wrong();
        Check.end();
    }

    private static void rows(int at, int first, int last, int n, String lines, int changed) {
        RangeReaders x = new RangeReaders();
        Check.put(x, 1, 2, first, 8, last, 9);
        Check.put(x, 1, 3, first, 8, last, 9);
        String call = "insert(2, false, " + at + ", " + n + ") with " + first + " .. " + last;
        Check.due(call, x.insert(2, false, at, n), changed);
        Check.due("rows after " + call, lines(x, false, "2 8 9 1"), lines);
        Check.due("on another sheet", Check.area(x, 1), "3: " + first + ",8 .. " + last + ",9");
        Check.due("count()", x.count(), lines.equals("none") ? 1 : 2);
    }

    private static void columns(int at, int first, int last, int n, String lines, int changed) {
        RangeReaders x = new RangeReaders();
        Check.put(x, 1, 2, 8, first, 9, last);
        Check.put(x, 1, 3, 8, first, 9, last);
        String call = "insert(2, true, " + at + ", " + n + ") with " + first + " .. " + last;
        Check.due(call, x.insert(2, true, at, n), changed);
        Check.due("columns after " + call, lines(x, true, "2 8 9 1"), lines);
        Check.due("on another sheet", Check.area(x, 1), "3: 8," + first + " .. 9," + last);
        Check.due("count()", x.count(), lines.equals("none") ? 1 : 2);
    }

    /** The lines of entry 0, whose other parts must be as they were. */
    private static String lines(RangeReaders x, boolean columns, String others) {
        if (x.entry(0, 0) == RangeReaders.NONE) {
            return "none";
        }
        int first = columns ? 2 : 1;
        int other = columns ? 1 : 2;
        String stayed = x.entry(0, 0) + " " + x.entry(0, other) + " " + x.entry(0, other + 2)
                + " " + x.entry(0, 5);
        Check.due("the parts that stay", stayed, others);
        return x.entry(0, first) + " .. " + x.entry(0, first + 2);
    }

    private static void allOfTheOtherDirection() {
        RangeReaders x = new RangeReaders();
        Check.put(x, 0, 0, 1, 4, ROWS, 5);
        Check.put(x, 0, 0, 4, 1, 5, COLUMNS);
        Check.put(x, 0, 0, 1, 1, ROWS, COLUMNS);
        Check.due("insert(0, true, 5, 2)", x.insert(0, true, 5, 2), 1);
        Check.due("insert(0, false, 5, 2)", x.insert(0, false, 5, 2), 1);
        Check.due("whole columns", Check.area(x, 0), "0: 1,4 .. 1048576,7");
        Check.due("whole rows", Check.area(x, 1), "0: 4,1 .. 7,16384");
        Check.due("the whole sheet", Check.area(x, 2), "0: 1,1 .. 1048576,16384");
    }

    private static void several() {
        RangeReaders x = new RangeReaders();
        for (int i = 0; i < 30; i++) {
            Check.put(x, 0, 0, 10, COLUMNS - i, 10, COLUMNS - i);
        }
        Check.due("insert(0, true, 1, 10)", x.insert(0, true, 1, 10), 30);
        Check.due("count()", x.count(), 20);
        Check.due("entry 9", Check.area(x, 9), "none");
        Check.due("entry 10", Check.area(x, 10), "0: 10,16384 .. 10,16384");
        x.rectangle(0, 1, 1, 1, 1);
        Check.due("a number that went is free", x.add(0), 0);
    }

    private static void wrong() {
        RangeReaders x = new RangeReaders();
        Check.put(x, 0, 0, 2, 2, 3, 3);
        bad(x, -1, false, 1, 1);
        bad(x, 8, true, 1, 1);
        bad(x, 0, false, 0, 1);
        bad(x, 0, false, -1, 1);
        bad(x, 0, false, ROWS + 1, 1);
        bad(x, 0, true, 0, 1);
        bad(x, 0, true, COLUMNS + 1, 1);
        bad(x, 0, false, 1, 0);
        bad(x, 0, false, 1, -1);
        bad(x, 0, false, 1, 16385);
        bad(x, 0, true, 1, 0);
        bad(x, 0, true, 1, 16385);
        bad(x, 0, false, Integer.MAX_VALUE, Integer.MAX_VALUE);
        bad(x, Integer.MIN_VALUE, false, Integer.MIN_VALUE, Integer.MIN_VALUE);
        Check.due("insert(0, false, 1048576, 16384)", x.insert(0, false, ROWS, 16384), 0);
        Check.due("insert(7, true, 16384, 16384)", x.insert(7, true, COLUMNS, 16384), 0);
        Check.due("insert(0, false, 16385, 1)", x.insert(0, false, COLUMNS + 1, 1), 0);
        Check.due("it stays", Check.area(x, 0), "0: 2,2 .. 3,3");
    }

    private static void bad(RangeReaders x, int sheet, boolean columns, int at, int n) {
        String call = "insert(" + sheet + ", " + columns + ", " + at + ", " + n + ")";
        Check.badArgument(call, () -> x.insert(sheet, columns, at, n));
        Check.due("after " + call, Check.area(x, 0), "0: 2,2 .. 3,3");
    }
}
