/** The bounds that the document's terms name, each at every call that takes such a number. */
public final class Edges00TermsTest {
    private static final int ROWS = Check.LAST_ROW;
    private static final int COLUMNS = Check.LAST_COLUMN;
    private static final int LEAST = Integer.MIN_VALUE;
    private static final int MOST = Integer.MAX_VALUE;

    public static void main(String[] args) {
        sheetsThatAre();
        sheetsThatAreNot();
        rowsThatAre();
        rowsThatAreNot();
        columnsThatAre();
        columnsThatAreNot();
        lowerRowNotLess();
        rightColumnNotLess();
        numberedFromZero();
        owners();
        atMost32768();
        lowestThatIsFree();
        none();
        calls512();
        Check.end();
    }

    /** One entry, which is met, and the rectangle 0: 2,2 .. 3,3. */
    private static RangeReaders some() {
        RangeReaders x = new RangeReaders();
        Check.put(x, 1, 0, 2, 2, 3, 3);
        x.meet();
        return x;
    }

    private static void sheetsThatAre() {
        Check.sentence("SHEETS are 0 .. 7");
        RangeReaders x = new RangeReaders();
        for (int sheet = 0; sheet <= 7; sheet++) {
            Check.due("rectangle on " + sheet, x.rectangle(sheet, 2, 2, 3, 3), true);
            Check.due("add", x.add(sheet), sheet);
        }
        for (int sheet = 0; sheet <= 7; sheet++) {
            Check.due("readers on " + sheet, x.readers(sheet, 2, 2), 1);
            Check.due("met(0)", x.met(0), sheet);
            Check.due("insert on " + sheet, x.insert(sheet, false, 1, 5), 1);
            Check.due("delete on " + sheet, x.delete(sheet, false, 1, 5), 1);
            x.rectangle(sheet, 2, 2, 3, 3);
            Check.due("move within " + sheet, x.move(sheet, 4, 4), 1);
            Check.due("entry", Check.area(x, sheet), sheet + ": 4,4 .. 5,5");
        }
    }

    private static void sheetsThatAreNot() {
        Check.sentence("SHEETS are 0 .. 7");
        for (int sheet : new int[] {LEAST, -8, -1, 8, 9, MOST}) {
            RangeReaders x = some();
            String before = Check.state(x);
            Check.due("rectangle on " + sheet, x.rectangle(sheet, 1, 1, 1, 1), false);
            Check.due("the state", Check.state(x), before);
            Check.badArgument(x, "readers on " + sheet, () -> x.readers(sheet, 2, 2));
            Check.badArgument(x, "insert rows on " + sheet, () -> x.insert(sheet, false, 1, 1));
            Check.badArgument(x, "insert columns on " + sheet, () -> x.insert(sheet, true, 1, 1));
            Check.badArgument(x, "delete rows on " + sheet, () -> x.delete(sheet, false, 1, 1));
            Check.badArgument(x, "delete columns on " + sheet, () -> x.delete(sheet, true, 1, 1));
            Check.badArgument(x, "move to " + sheet, () -> x.move(sheet, 1, 1));
        }
    }

    private static void rowsThatAre() {
        Check.sentence("ROWS are 1 .. 1048576");
        for (int row : new int[] {1, 2, COLUMNS, COLUMNS + 1, ROWS - 1, ROWS}) {
            RangeReaders x = new RangeReaders();
            Check.due("rectangle at " + row, x.rectangle(0, row, 5, row, 5), true);
            Check.due("add", x.add(0), 0);
            Check.due("readers at " + row, x.readers(0, row, 5), 1);
            Check.due("delete of " + row, x.delete(0, false, row, 1), 1);
            Check.due("count()", x.count(), 0);
            Check.put(x, 0, 1, 7, 7, 7, 7);
            Check.due("move to " + row, x.move(0, row, 5), 1);
            Check.due("entry", Check.area(x, 0), "0: " + row + ",5 .. " + row + ",5");
            Check.due("insert at " + row, x.insert(0, false, row, 1), 1);
            Check.due("count()", x.count(), row == ROWS ? 0 : 1);
        }
    }

    private static void rowsThatAreNot() {
        Check.sentence("ROWS are 1 .. 1048576");
        for (int row : new int[] {LEAST, -ROWS, -1, 0, ROWS + 1, 2 * ROWS, MOST}) {
            RangeReaders x = some();
            String before = Check.state(x);
            Check.due("rectangle at " + row, x.rectangle(0, row, 1, row, 1), false);
            Check.due("rectangle from " + row, x.rectangle(0, row, 1, ROWS, 1), false);
            Check.due("rectangle up to " + row, x.rectangle(0, 1, 1, row, 1), false);
            Check.due("the state", Check.state(x), before);
            Check.badArgument(x, "readers at row " + row, () -> x.readers(0, row, 1));
            Check.badArgument(x, "insert at row " + row, () -> x.insert(0, false, row, 1));
            Check.badArgument(x, "delete at row " + row, () -> x.delete(0, false, row, 1));
            Check.badArgument(x, "move to row " + row, () -> x.move(0, row, 1));
        }
    }

    private static void columnsThatAre() {
        Check.sentence("COLUMNS 1 .. 16384");
        for (int column : new int[] {1, 2, COLUMNS - 1, COLUMNS}) {
            RangeReaders x = new RangeReaders();
            Check.due("rectangle at " + column, x.rectangle(0, 5, column, 5, column), true);
            Check.due("add", x.add(0), 0);
            Check.due("readers at " + column, x.readers(0, 5, column), 1);
            Check.due("delete of " + column, x.delete(0, true, column, 1), 1);
            Check.due("count()", x.count(), 0);
            Check.put(x, 0, 1, 7, 7, 7, 7);
            Check.due("move to " + column, x.move(0, 5, column), 1);
            Check.due("entry", Check.area(x, 0), "0: 5," + column + " .. 5," + column);
            Check.due("insert at " + column, x.insert(0, true, column, 1), 1);
            Check.due("count()", x.count(), column == COLUMNS ? 0 : 1);
        }
    }

    private static void columnsThatAreNot() {
        Check.sentence("COLUMNS 1 .. 16384");
        for (int column : new int[] {LEAST, -COLUMNS, -1, 0, COLUMNS + 1, ROWS, MOST}) {
            RangeReaders x = some();
            String before = Check.state(x);
            Check.due("rectangle at " + column, x.rectangle(0, 1, column, 1, column), false);
            Check.due("rectangle from " + column, x.rectangle(0, 1, column, 1, COLUMNS), false);
            Check.due("rectangle up to " + column, x.rectangle(0, 1, 1, 1, column), false);
            Check.due("the state", Check.state(x), before);
            Check.badArgument(x, "readers at column " + column, () -> x.readers(0, 1, column));
            Check.badArgument(x, "insert at column " + column, () -> x.insert(0, true, column, 1));
            Check.badArgument(x, "delete at column " + column, () -> x.delete(0, true, column, 1));
            Check.badArgument(x, "move to column " + column, () -> x.move(0, 1, column));
        }
    }

    private static void lowerRowNotLess() {
        Check.sentence("the latter two not less than the former");
        for (int top : new int[] {2, 500, ROWS}) {
            RangeReaders x = new RangeReaders();
            Check.due("a row less than " + top, x.rectangle(0, top, 1, top - 1, 9), false);
            Check.due("the first row, less than " + top, x.rectangle(0, top, 1, 1, 9), false);
            Check.badState("meet() without a rectangle", () -> x.meet());
            Check.due("the same row " + top, x.rectangle(0, top, 1, top, 9), true);
            Check.due("meet()", x.meet(), 0);
        }
    }

    private static void rightColumnNotLess() {
        Check.sentence("the latter two not less than the former");
        for (int left : new int[] {2, 500, COLUMNS}) {
            RangeReaders x = new RangeReaders();
            Check.due("a column less than " + left, x.rectangle(0, 1, left, 9, left - 1), false);
            Check.due("the first column, less than " + left, x.rectangle(0, 1, left, 9, 1), false);
            Check.badState("meet() without a rectangle", () -> x.meet());
            Check.due("the same column " + left, x.rectangle(0, 1, left, 9, left), true);
            Check.due("meet()", x.meet(), 0);
        }
    }

    private static void numberedFromZero() {
        Check.sentence("ENTRIES are numbered 0, 1, ..");
        RangeReaders x = new RangeReaders();
        x.rectangle(0, 1, 1, 1, 1);
        for (int n = 0; n < 70; n++) {
            Check.due("add(5)", x.add(5), n);
        }
    }

    private static void owners() {
        Check.sentence("OWNER (0 .. 16383)");
        RangeReaders x = some();
        for (int owner : new int[] {0, 1, 16382, 16383}) {
            int n = x.add(owner);
            Check.due("the owner", x.entry(n, 5), owner);
        }
        for (int owner : new int[] {LEAST, -16384, -1, 16384, 16385, MOST}) {
            Check.badArgument(x, "add(" + owner + ")", () -> x.add(owner));
        }
    }

    /** Beyond the 512 calls that are promised, but the document names the limit. */
    private static void atMost32768() {
        Check.sentence("at most 32768 are there at a time");
        RangeReaders x = new RangeReaders();
        x.rectangle(0, 1, 1, 1, 1);
        for (int n = 0; n < 32768; n++) {
            Check.due("add(1)", x.add(1), n);
        }
        Check.badState("add(1)", () -> x.add(1));
        Check.due("count()", x.count(), 32768);
        Check.due("the last entry's owner", x.entry(32767, 5), 1);
        Check.due("one beyond", x.entry(32768, 5), RangeReaders.NONE);
    }

    private static void lowestThatIsFree() {
        Check.sentence("a new one gets the lowest number that is free");
        RangeReaders x = new RangeReaders();
        for (int n = 0; n < 20; n++) {
            Check.put(x, n, n < 10 ? 0 : 1, n + 1, 1, n + 1, 1);
        }
        Check.due("when none is free", Check.put(x, 1, 2, 1, 1, 1, 1), 20);
        x.remove(19);
        x.remove(6);
        Check.due("after remove", x.add(1), 6);
        x.drop(5);
        Check.due("after drop", x.add(1), 5);
        x.delete(0, false, 4, 1);
        Check.due("after delete", x.add(1), 3);
        x.insert(1, false, 1, 16384);
        Check.due("after an insert that lets none go", x.add(1), 19);
        x.insert(1, true, 1, 16384);
        Check.due("after an insert that lets nine go", x.add(1), 10);
        x.rectangle(3, 1, 1, 1, 1);
        x.move(0, 1, 1);
        Check.due("after move", x.add(1), 0);
        Check.due("the next one", x.add(1), 11);
    }

    private static void none() {
        Check.sentence("`NONE = -1`: Nothing there.");
        Check.due("NONE", RangeReaders.NONE, -1);
        RangeReaders x = new RangeReaders();
        Check.due("entry(0, 0)", x.entry(0, 0), -1);
        Check.due("met(0)", x.met(0), -1);
    }

    private static void calls512() {
        Check.sentence("An object is used for at most 512 calls");
        RangeReaders x = new RangeReaders();
        Check.due("call 1", x.rectangle(7, 1, 1, 1, 1), true);
        for (int call = 2; call <= 509; call++) {
            Check.due("call " + call, x.add(call), call - 2);
        }
        Check.due("call 510", x.meet(), 508);
        Check.due("call 511", x.met(507), 507);
        Check.due("call 512", x.delete(7, true, 1, 1), 508);
    }
}
