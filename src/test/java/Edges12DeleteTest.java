/** Promise 12: lines taken out at the edges of a rectangle and of a sheet; each along both directions. */
public final class Edges12DeleteTest {
    private static final int LEAST = Integer.MIN_VALUE;
    private static final int MOST = Integer.MAX_VALUE;

    public static void main(String[] args) {
        for (boolean columns : Lines.BOTH) {
            fewerIfThereAreNotSoMany(columns);
            whatItHasOfThemGoes(columns);
            whatIsBehindMovesUp(columns);
            endsBeforeAt(columns);
            nothingIsLeft(columns);
            allLinesStay(columns);
            allButOneDoNotStay(columns);
            otherSheetsStay(columns);
            howMany(columns);
            noSuchSheet(columns);
            noSuchLine(columns);
            noSuchNumber(columns);
        }
        rowsThatAreNoColumns();
        Check.end();
    }

    private static void fewerIfThereAreNotSoMany(boolean columns) {
        Check.sentence("(fewer, if there aren't so many)");
        int end = Lines.end(columns);
        Lines.delete(columns, end - 4, end, end, 1, (end - 4) + " .. " + (end - 1), 1);
        Lines.delete(columns, end - 4, end, end, 2, (end - 4) + " .. " + (end - 1), 1);
        Lines.delete(columns, end - 4, end, end, 16384, (end - 4) + " .. " + (end - 1), 1);
        Lines.delete(columns, end - 4, end, end - 2, 16384, (end - 4) + " .. " + (end - 3), 1);
        Lines.delete(columns, end - 4, end, end - 4, 16384, "none", 1);
        Lines.delete(columns, end, end, end, 16384, "none", 1);
        Lines.delete(columns, 10, 14, end, 16384, "10 .. 14", 0);
        Lines.delete(columns, 10, 14, 12, 16384, "10 .. 11", 1);
    }

    private static void whatItHasOfThemGoes(boolean columns) {
        Check.sentence("What a rectangle has of them goes");
        Lines.delete(columns, 10, 14, 10, 1, "10 .. 13", 1);
        Lines.delete(columns, 10, 14, 9, 2, "9 .. 12", 1);
        Lines.delete(columns, 10, 14, 12, 1, "10 .. 13", 1);
        Lines.delete(columns, 10, 14, 11, 3, "10 .. 11", 1);
        Lines.delete(columns, 10, 14, 14, 1, "10 .. 13", 1);
        Lines.delete(columns, 10, 14, 14, 9, "10 .. 13", 1);
        Lines.delete(columns, 10, 14, 11, 9, "10 .. 10", 1);
        Lines.delete(columns, 10, 14, 10, 4, "10 .. 10", 1);
        Lines.delete(columns, 10, 14, 1, 13, "1 .. 1", 1);
    }

    private static void whatIsBehindMovesUp(boolean columns) {
        Check.sentence("what is behind moves up");
        Lines.delete(columns, 10, 14, 9, 1, "9 .. 13", 1);
        Lines.delete(columns, 10, 14, 1, 1, "9 .. 13", 1);
        Lines.delete(columns, 10, 14, 1, 9, "1 .. 5", 1);
        int end = Lines.end(columns);
        Lines.delete(columns, end, end, 1, 1, (end - 1) + " .. " + (end - 1), 1);
        Lines.delete(columns, end, end, 1, 16383, (end - 16383) + " .. " + (end - 16383), 1);
        Lines.delete(columns, end, end, end - 1, 1, (end - 1) + " .. " + (end - 1), 1);
    }

    private static void endsBeforeAt(boolean columns) {
        Check.sentence("What a rectangle has of them goes, what is behind moves up");
        Lines.delete(columns, 10, 14, 15, 1, "10 .. 14", 0);
        Lines.delete(columns, 10, 14, 15, 16384, "10 .. 14", 0);
        Lines.delete(columns, 10, 10, 11, 1, "10 .. 10", 0);
    }

    private static void nothingIsLeft(boolean columns) {
        Check.sentence("an entry of which nothing is left goes");
        Lines.delete(columns, 10, 14, 10, 5, "none", 1);
        Lines.delete(columns, 10, 14, 10, 6, "none", 1);
        Lines.delete(columns, 10, 14, 9, 6, "none", 1);
        Lines.delete(columns, 10, 14, 1, 14, "none", 1);
        Lines.delete(columns, 10, 14, 1, 16384, "none", 1);
        Lines.delete(columns, 10, 10, 10, 1, "none", 1);
        Lines.delete(columns, 1, 1, 1, 1, "none", 1);
        Lines.delete(columns, 1, 16383, 1, 16384, "none", 1);
        RangeReaders x = new RangeReaders();
        Lines.put(x, 0, columns, 10, 14);
        x.delete(0, columns, 10, 5);
        Check.due("its number is free", Lines.put(x, 0, columns, 1, 1), 0);
    }

    private static void allLinesStay(boolean columns) {
        Check.sentence("Rectangles that have all rows (columns) stay as they are");
        int end = Lines.end(columns);
        String all = "1 .. " + end;
        Lines.delete(columns, 1, end, 1, 1, all, 0);
        Lines.delete(columns, 1, end, 2, 1, all, 0);
        Lines.delete(columns, 1, end, end, 16384, all, 0);
        Lines.delete(columns, 1, end, 1, 16384, all, 0);
        RangeReaders x = new RangeReaders();
        Check.put(x, 0, 1, 1, 1, Check.LAST_ROW, Check.LAST_COLUMN);
        Check.due("a whole sheet", x.delete(1, columns, 1, 16384), 0);
        Check.due("its entry", Check.area(x, 0), "1: 1,1 .. 1048576,16384");
    }

    /** Nor does one that has all lines of the other direction. */
    private static void allButOneDoNotStay(boolean columns) {
        Check.sentence("Rectangles that have all rows (columns) stay as they are");
        int end = Lines.end(columns);
        Lines.delete(columns, 1, end - 1, 1, 1, "1 .. " + (end - 2), 1);
        Lines.delete(columns, 1, end - 1, end, 1, "1 .. " + (end - 1), 0);
        Lines.delete(columns, 2, end, 1, 1, "1 .. " + (end - 1), 1);
        Lines.delete(columns, 2, end, 2, 1, "2 .. " + (end - 1), 1);
        RangeReaders x = new RangeReaders();
        if (columns) {
            Check.put(x, 1, 0, 1, 4, Check.LAST_ROW, 5);
        } else {
            Check.put(x, 1, 0, 4, 1, 5, Check.LAST_COLUMN);
        }
        Check.due("all lines of the other direction", x.delete(0, columns, 5, 1), 1);
        Check.due("its lines", Lines.of(x, columns, 0), "4 .. 4");
        Check.due("its other lines", Lines.of(x, !columns, 0), "1 .. " + Lines.end(!columns));
        Check.due("until nothing is left", x.delete(0, columns, 4, 1), 1);
        Check.due("count()", x.count(), 0);
    }

    private static void otherSheetsStay(boolean columns) {
        Check.sentence("n lines, from at on, are taken out");
        RangeReaders x = new RangeReaders();
        for (int sheet = 0; sheet <= 7; sheet++) {
            Lines.put(x, sheet, columns, 10, 14);
        }
        Check.due("delete(3, ..)", x.delete(3, columns, 1, 1), 1);
        for (int sheet = 0; sheet <= 7; sheet++) {
            Check.due("sheet " + sheet, Lines.of(x, columns, sheet), sheet == 3 ? "9 .. 13" : "10 .. 14");
        }
    }

    private static void howMany(boolean columns) {
        Check.sentence("How many entries changed or went");
        int end = Lines.end(columns);
        RangeReaders x = new RangeReaders();
        Check.due("delete without entries", x.delete(0, columns, 1, 1), 0);
        Lines.put(x, 0, columns, 1, 2);
        Lines.put(x, 0, columns, 2, 5);
        Lines.put(x, 0, columns, 3, 3);
        Lines.put(x, 0, columns, end, end);
        Lines.put(x, 0, columns, 1, end);
        Lines.put(x, 1, columns, 3, 3);
        Check.due("one shorter, one moved, one gone", x.delete(0, columns, 3, 1), 3);
        Check.due("count()", x.count(), 5);
    }

    private static RangeReaders some(boolean columns) {
        RangeReaders x = new RangeReaders();
        Lines.put(x, 0, columns, 10, 14);
        Lines.put(x, 7, columns, 10, 14);
        x.meet();
        return x;
    }

    private static void noSuchSheet(boolean columns) {
        Check.sentence("IllegalArgumentException: as with insert: there is no such sheet");
        for (int sheet : new int[] {LEAST, -1, 8, MOST}) {
            RangeReaders x = some(columns);
            Check.badArgument(x, "delete on sheet " + sheet, () -> x.delete(sheet, columns, 1, 1));
        }
    }

    private static void noSuchLine(boolean columns) {
        Check.sentence("IllegalArgumentException: as with insert: there is no such .. line");
        int end = Lines.end(columns);
        for (int at : new int[] {LEAST, -1, 0, end + 1, MOST}) {
            RangeReaders x = some(columns);
            Check.badArgument(x, "delete from line " + at, () -> x.delete(0, columns, at, 1));
        }
        RangeReaders x = some(columns);
        Check.due("delete of the last line", x.delete(0, columns, end, 1), 0);
        Check.due("delete of the first line", x.delete(0, columns, 1, 1), 1);
    }

    private static void noSuchNumber(boolean columns) {
        Check.sentence("IllegalArgumentException: as with insert: .. or n isn't 1 .. 16384");
        for (int n : new int[] {LEAST, -1, 0, 16385, Check.LAST_ROW, MOST - 9, MOST}) {
            RangeReaders x = some(columns);
            Check.badArgument(x, "delete of " + n + " lines", () -> x.delete(0, columns, 1, n));
        }
        RangeReaders x = some(columns);
        Check.due("delete of 1 line", x.delete(0, columns, 1, 1), 1);
        Check.due("its lines", Lines.of(x, columns, 0), "9 .. 13");
        Check.due("delete of 16384 lines", x.delete(0, columns, 1, 16384), 1);
        Check.due("its lines", Lines.of(x, columns, 0), "none");
    }

    private static void rowsThatAreNoColumns() {
        Check.sentence("IllegalArgumentException: as with insert: there is no such .. line");
        RangeReaders x = new RangeReaders();
        Check.put(x, 1, 0, 16385, 16384, 16386, 16384);
        Check.badArgument(x, "delete from column 16385", () -> x.delete(0, true, 16385, 1));
        Check.due("delete from row 16385", x.delete(0, false, 16385, 1), 1);
        Check.due("entry 0", Check.area(x, 0), "0: 16385,16384 .. 16385,16384");
    }
}
