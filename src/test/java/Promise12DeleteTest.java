/** delete shortens, moves up and lets go, on one sheet and along one direction. */
public final class Promise12DeleteTest {
    private static final int ROWS = Check.LAST_ROW;
    private static final int COLUMNS = Check.LAST_COLUMN;

    public static void main(String[] args) {
        both(1, 3, "7 .. 11", 1);
        both(1, 9, "1 .. 5", 1);
        both(9, 1, "9 .. 13", 1);
        both(9, 2, "9 .. 12", 1);
        both(10, 1, "10 .. 13", 1);
        both(8, 6, "8 .. 8", 1);
        both(8, 7, "none", 1);
        both(10, 5, "none", 1);
        both(10, 4, "10 .. 10", 1);
        both(11, 4, "10 .. 10", 1);
        both(11, 3, "10 .. 11", 1);
        both(11, 16384, "10 .. 10", 1);
        both(14, 1, "10 .. 13", 1);
        both(14, 16384, "10 .. 13", 1);
        both(15, 1, "10 .. 14", 0);
        both(15, 16384, "10 .. 14", 0);
        both(1, 16384, "none", 1);
        lastLines();
        all();
        several();
        wrong();
        Check.end();
    }

    /** An entry with the lines 10 .. 14, once of rows and once of columns. */
    private static void both(int at, int n, String lines, int changed) {
        RangeReaders x = new RangeReaders();
        Check.put(x, 1, 4, 10, 20, 14, 21);
        Check.put(x, 1, 5, 10, 20, 14, 21);
        Check.put(x, 1, 6, 20, 10, 21, 14);
        Check.put(x, 1, 7, 20, 10, 21, 14);
        String call = ", " + at + ", " + n + ")";
        Check.due("delete(4, false" + call, x.delete(4, false, at, n), changed);
        Check.due("delete(6, true" + call, x.delete(6, true, at, n), changed);
        boolean gone = lines.equals("none");
        Check.due("rows after" + call, gone ? Check.area(x, 0) : part(x, 0, 1, 3), lines);
        Check.due("columns after" + call, gone ? Check.area(x, 2) : part(x, 2, 2, 4), lines);
        if (!gone) {
            Check.due("columns stay" + call, part(x, 0, 2, 4), "20 .. 21");
            Check.due("rows stay" + call, part(x, 2, 1, 3), "20 .. 21");
        }
        Check.due("on another sheet", Check.area(x, 1), "5: 10,20 .. 14,21");
        Check.due("on another sheet", Check.area(x, 3), "7: 20,10 .. 21,14");
        Check.due("count()", x.count(), gone ? 2 : 4);
    }

    private static String part(RangeReaders x, int n, int first, int last) {
        return x.entry(n, first) + " .. " + x.entry(n, last);
    }

    private static void lastLines() {
        RangeReaders x = new RangeReaders();
        Check.put(x, 1, 0, ROWS - 1, COLUMNS - 1, ROWS, COLUMNS);
        Check.due("delete the last row and more", x.delete(0, false, ROWS, 16384), 1);
        Check.due("entry 0", Check.area(x, 0), "0: 1048575,16383 .. 1048575,16384");
        Check.due("delete the last column and more", x.delete(0, true, COLUMNS, 2), 1);
        Check.due("entry 0", Check.area(x, 0), "0: 1048575,16383 .. 1048575,16383");
        Check.due("delete what nothing has", x.delete(0, true, COLUMNS, 1), 0);
        Check.due("delete(0, false, 1, 16384)", x.delete(0, false, 1, 16384), 1);
        Check.due("entry 0", Check.area(x, 0), "0: 1032191,16383 .. 1032191,16383");
        Check.due("delete(0, true, 16383, 16384)", x.delete(0, true, COLUMNS - 1, 16384), 1);
        Check.due("count()", x.count(), 0);
    }

    private static void all() {
        RangeReaders x = new RangeReaders();
        Check.put(x, 0, 0, 1, 4, ROWS, 5);
        Check.put(x, 0, 0, 4, 1, 5, COLUMNS);
        Check.put(x, 0, 0, 1, 1, ROWS, COLUMNS);
        Check.put(x, 0, 0, 2, 2, ROWS, COLUMNS);
        Check.due("delete(0, true, 5, 1)", x.delete(0, true, 5, 1), 2);
        Check.due("delete(0, false, 5, 1)", x.delete(0, false, 5, 1), 2);
        Check.due("whole columns", Check.area(x, 0), "0: 1,4 .. 1048576,4");
        Check.due("whole rows", Check.area(x, 1), "0: 4,1 .. 4,16384");
        Check.due("the whole sheet", Check.area(x, 2), "0: 1,1 .. 1048576,16384");
        Check.due("all but a line", Check.area(x, 3), "0: 2,2 .. 1048575,16383");
        Check.due("delete all columns", x.delete(0, true, 1, 16384), 2);
        Check.due("whole rows", Check.area(x, 1), "0: 4,1 .. 4,16384");
        Check.due("the whole sheet", Check.area(x, 2), "0: 1,1 .. 1048576,16384");
        Check.due("count()", x.count(), 2);
    }

    private static void several() {
        RangeReaders x = new RangeReaders();
        for (int i = 0; i < 30; i++) {
            Check.put(x, 0, 0, i + 1, 1, i + 1, 1);
        }
        Check.due("delete(0, false, 11, 5)", x.delete(0, false, 11, 5), 20);
        Check.due("count()", x.count(), 25);
        Check.due("entry 9", Check.area(x, 9), "0: 10,1 .. 10,1");
        Check.due("entry 10", Check.area(x, 10), "none");
        Check.due("entry 14", Check.area(x, 14), "none");
        Check.due("entry 15", Check.area(x, 15), "0: 11,1 .. 11,1");
        Check.due("a number that went is free", x.add(0), 10);
    }

    private static void wrong() {
        RangeReaders x = new RangeReaders();
        Check.put(x, 0, 0, 2, 2, 3, 3);
        bad(x, -1, false, 1, 1);
        bad(x, 8, true, 1, 1);
        bad(x, 0, false, 0, 1);
        bad(x, 0, false, -1, 1);
        bad(x, 0, false, ROWS + 1, 1);
        bad(x, 0, true, 0, 1);
        bad(x, 0, true, COLUMNS + 1, 1);
        bad(x, 0, false, 1, 0);
        bad(x, 0, false, 1, -1);
        bad(x, 0, false, 1, 16385);
        bad(x, 0, true, 1, 0);
        bad(x, 0, true, 1, 16385);
        bad(x, 0, false, Integer.MAX_VALUE, Integer.MAX_VALUE);
        bad(x, Integer.MIN_VALUE, false, Integer.MIN_VALUE, Integer.MIN_VALUE);
        Check.due("delete(0, false, 1048576, 16384)", x.delete(0, false, ROWS, 16384), 0);
        Check.due("delete(7, true, 16384, 16384)", x.delete(7, true, COLUMNS, 16384), 0);
        Check.due("delete(0, false, 16385, 1)", x.delete(0, false, COLUMNS + 1, 1), 0);
        Check.due("it stays", Check.area(x, 0), "0: 2,2 .. 3,3");
    }

    private static void bad(RangeReaders x, int sheet, boolean columns, int at, int n) {
        String call = "delete(" + sheet + ", " + columns + ", " + at + ", " + n + ")";
        Check.badArgument(call, () -> x.delete(sheet, columns, at, n));
        Check.due("after " + call, Check.area(x, 0), "0: 2,2 .. 3,3");
    }
}
