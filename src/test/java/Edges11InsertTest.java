/** Promise 11: lines put in at the edges of a rectangle and of a sheet; each along both directions. */
public final class Edges11InsertTest {
    private static final int LEAST = Integer.MIN_VALUE;
    private static final int MOST = Integer.MAX_VALUE;

    public static void main(String[] args) {
        for (boolean columns : Lines.BOTH) {
            firstLineAtOrBehindMoves(columns);
            hasAtAndTheLineBefore(columns);
            endsBeforeAt(columns);
            beyondTheLastOne(columns);
            nothingIsLeft(columns);
            allLinesStay(columns);
            allButOneDoNotStay(columns);
            otherSheetsStay(columns);
            howMany(columns);
            noSuchSheet(columns);
            noSuchLine(columns);
            noSuchNumber(columns);
        }
        rowsThatAreNoColumns();
        Check.end();
    }

    private static void firstLineAtOrBehindMoves(boolean columns) {
        Check.sentence("A rectangle whose first line is at, or behind, moves by n");
        Lines.insert(columns, 10, 14, 10, 1, "11 .. 15", 1);
        Lines.insert(columns, 10, 14, 10, 500, "510 .. 514", 1);
        Lines.insert(columns, 10, 14, 9, 1, "11 .. 15", 1);
        Lines.insert(columns, 10, 14, 1, 3, "13 .. 17", 1);
        Lines.insert(columns, 10, 10, 10, 3, "13 .. 13", 1);
        Lines.insert(columns, 1, 1, 1, 1, "2 .. 2", 1);
        int end = Lines.end(columns);
        Lines.insert(columns, end - 9, end - 5, 1, 5, (end - 4) + " .. " + end, 1);
    }

    private static void hasAtAndTheLineBefore(boolean columns) {
        Check.sentence("one that has at and the line before it becomes longer by n");
        Lines.insert(columns, 10, 14, 11, 1, "10 .. 15", 1);
        Lines.insert(columns, 10, 14, 14, 1, "10 .. 15", 1);
        Lines.insert(columns, 10, 14, 12, 500, "10 .. 514", 1);
        Lines.insert(columns, 10, 11, 11, 1, "10 .. 12", 1);
        Lines.insert(columns, 1, 2, 2, 7, "1 .. 9", 1);
        int end = Lines.end(columns);
        Lines.insert(columns, 10, end - 5, 11, 5, "10 .. " + end, 1);
    }

    private static void endsBeforeAt(boolean columns) {
        Check.sentence("one that has at and the line before it becomes longer by n");
        Lines.insert(columns, 10, 14, 15, 1, "10 .. 14", 0);
        Lines.insert(columns, 10, 14, 15, 16384, "10 .. 14", 0);
        Lines.insert(columns, 10, 14, Lines.end(columns), 16384, "10 .. 14", 0);
        Lines.insert(columns, 10, 10, 11, 1, "10 .. 10", 0);
    }

    private static void beyondTheLastOne(boolean columns) {
        Check.sentence("lines beyond the last one are cut off");
        int end = Lines.end(columns);
        Lines.insert(columns, end - 4, end, 3, 1, (end - 3) + " .. " + end, 1);
        Lines.insert(columns, end - 4, end, 3, 4, end + " .. " + end, 1);
        Lines.insert(columns, end - 4, end - 1, end - 4, 2, (end - 2) + " .. " + end, 1);
        Lines.insert(columns, 10, end - 5, 11, 6, "10 .. " + end, 1);
        Lines.insert(columns, 10, end - 5, 11, 16384, "10 .. " + end, 1);
        Lines.insert(columns, end - 1, end, end, 1, (end - 1) + " .. " + end, 0);
        Lines.insert(columns, 2, end, 3, 16384, "2 .. " + end, 0);
        Lines.insert(columns, 2, end, 2, 1, "3 .. " + end, 1);
    }

    private static void nothingIsLeft(boolean columns) {
        Check.sentence("an entry of which nothing is left goes");
        int end = Lines.end(columns);
        Lines.insert(columns, end, end, end, 1, "none", 1);
        Lines.insert(columns, end, end, 1, 16384, "none", 1);
        Lines.insert(columns, end - 4, end, 3, 5, "none", 1);
        Lines.insert(columns, end - 4, end - 2, end - 4, 5, "none", 1);
        Lines.insert(columns, end - 16383, end, 1, 16384, columns ? "1 .. 16384" : "none", columns ? 0 : 1);
        Lines.insert(columns, end - 16382, end, 1, 16384, "none", 1);
        RangeReaders x = new RangeReaders();
        Lines.put(x, 0, columns, end, end);
        x.insert(0, columns, end, 1);
        Check.due("its number is free", Lines.put(x, 0, columns, 1, 1), 0);
    }

    private static void allLinesStay(boolean columns) {
        Check.sentence("rectangles that have all rows (columns) of a sheet stay as they are");
        int end = Lines.end(columns);
        String all = "1 .. " + end;
        Lines.insert(columns, 1, end, 1, 1, all, 0);
        Lines.insert(columns, 1, end, 2, 1, all, 0);
        Lines.insert(columns, 1, end, end, 16384, all, 0);
        Lines.insert(columns, 1, end, 1, 16384, all, 0);
        RangeReaders x = new RangeReaders();
        Lines.put(x, 0, columns, 1, end - 1);
        Check.due("one that comes to have them all", x.insert(0, columns, 2, 1), 1);
        Check.due("and stays from then on", x.insert(0, columns, 1, 1), 0);
        Check.due("its lines", Lines.of(x, columns, 0), all);
        Check.put(x, 0, 1, 1, 1, Check.LAST_ROW, Check.LAST_COLUMN);
        Check.due("a whole sheet", x.insert(1, columns, 1, 16384), 0);
        Check.due("its entry", Check.area(x, 1), "1: 1,1 .. 1048576,16384");
    }

    /** Nor does one that has all lines of the other direction. */
    private static void allButOneDoNotStay(boolean columns) {
        Check.sentence("rectangles that have all rows (columns) of a sheet stay as they are");
        int end = Lines.end(columns);
        Lines.insert(columns, 1, end - 1, 1, 1, "2 .. " + end, 1);
        Lines.insert(columns, 1, end - 1, 2, 1, "1 .. " + end, 1);
        Lines.insert(columns, 2, end, 1, 1, "3 .. " + end, 1);
        RangeReaders x = new RangeReaders();
        if (columns) {
            Check.put(x, 1, 0, 1, 4, Check.LAST_ROW, 5);
        } else {
            Check.put(x, 1, 0, 4, 1, 5, Check.LAST_COLUMN);
        }
        Check.due("all lines of the other direction", x.insert(0, columns, 5, 1), 1);
        Check.due("its lines", Lines.of(x, columns, 0), "4 .. 6");
        Check.due("its other lines", Lines.of(x, !columns, 0), "1 .. " + Lines.end(!columns));
    }

    private static void otherSheetsStay(boolean columns) {
        Check.sentence("are put in on a sheet before line at");
        RangeReaders x = new RangeReaders();
        for (int sheet = 0; sheet <= 7; sheet++) {
            Lines.put(x, sheet, columns, 10, 14);
        }
        Check.due("insert(3, ..)", x.insert(3, columns, 1, 1), 1);
        for (int sheet = 0; sheet <= 7; sheet++) {
            Check.due("sheet " + sheet, Lines.of(x, columns, sheet), sheet == 3 ? "11 .. 15" : "10 .. 14");
        }
    }

    private static void howMany(boolean columns) {
        Check.sentence("How many entries changed or went");
        int end = Lines.end(columns);
        RangeReaders x = new RangeReaders();
        Check.due("insert without entries", x.insert(0, columns, 1, 1), 0);
        Lines.put(x, 0, columns, 1, 2);
        Lines.put(x, 0, columns, 2, 5);
        Lines.put(x, 0, columns, 3, 3);
        Lines.put(x, 0, columns, end, end);
        Lines.put(x, 0, columns, 1, end);
        Lines.put(x, 0, columns, 2, end);
        Lines.put(x, 1, columns, 3, 3);
        Check.due("one longer, one moved, one gone", x.insert(0, columns, 3, 1), 3);
        Check.due("count()", x.count(), 6);
    }

    private static RangeReaders some(boolean columns) {
        RangeReaders x = new RangeReaders();
        Lines.put(x, 0, columns, 10, 14);
        Lines.put(x, 7, columns, 10, 14);
        x.meet();
        return x;
    }

    private static void noSuchSheet(boolean columns) {
        Check.sentence("IllegalArgumentException: there is no such sheet");
        for (int sheet : new int[] {LEAST, -1, 8, MOST}) {
            RangeReaders x = some(columns);
            Check.badArgument(x, "insert on sheet " + sheet, () -> x.insert(sheet, columns, 1, 1));
        }
    }

    private static void noSuchLine(boolean columns) {
        Check.sentence("IllegalArgumentException: there is no such .. line");
        int end = Lines.end(columns);
        for (int at : new int[] {LEAST, -1, 0, end + 1, MOST}) {
            RangeReaders x = some(columns);
            Check.badArgument(x, "insert before line " + at, () -> x.insert(0, columns, at, 1));
        }
        RangeReaders x = some(columns);
        Check.due("insert before the last line", x.insert(0, columns, end, 1), 0);
        Check.due("insert before the first line", x.insert(0, columns, 1, 1), 1);
    }

    private static void noSuchNumber(boolean columns) {
        Check.sentence("IllegalArgumentException: .. or n isn't 1 .. 16384");
        for (int n : new int[] {LEAST, -1, 0, 16385, Check.LAST_ROW, MOST - 9, MOST}) {
            RangeReaders x = some(columns);
            Check.badArgument(x, "insert of " + n + " lines", () -> x.insert(0, columns, 1, n));
        }
        RangeReaders x = some(columns);
        Check.due("insert of 1 line", x.insert(0, columns, 1, 1), 1);
        Check.due("its lines", Lines.of(x, columns, 0), "11 .. 15");
        Check.due("insert of 16384 lines", x.insert(0, columns, 1, 16384), 1);
        Check.due("its lines", Lines.of(x, columns, 0), columns ? "none" : "16395 .. 16399");
    }

    private static void rowsThatAreNoColumns() {
        Check.sentence("IllegalArgumentException: there is no such .. line");
        RangeReaders x = new RangeReaders();
        Check.put(x, 1, 0, 16385, 16384, 16385, 16384);
        Check.badArgument(x, "insert before column 16385", () -> x.insert(0, true, 16385, 1));
        Check.due("insert before row 16385", x.insert(0, false, 16385, 1), 1);
        Check.due("entry 0", Check.area(x, 0), "0: 16386,16384 .. 16386,16384");
    }
}
