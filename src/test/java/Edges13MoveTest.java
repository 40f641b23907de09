/** Promise 13: what lies just in and just out of the cut and the goal, and goals that are refused. */
public final class Edges13MoveTest {
    private static final int ROWS = Check.LAST_ROW;
    private static final int COLUMNS = Check.LAST_COLUMN;
    private static final int LEAST = Integer.MIN_VALUE;
    private static final int MOST = Integer.MAX_VALUE;

    public static void main(String[] args) {
        liesInTheCutOne();
        doesNotLieInTheCutOne();
        wholeRectangleLiesInTheGoal();
        notWholeInTheGoal();
        bothByWhatWasBefore();
        movedOnesDoNotGo();
        howMany();
        cornersOfTheSheet();
        wholeSheets();
        noSuchSheet();
        noSuchRow();
        noSuchColumn();
        notAllOnTheSheet();
        noRectangle();
        Check.end();
    }

    /** An entry alone, and 1: 10,20 .. 12,24 cut and put down at 2: 110,220 .. 112,224. */
    private static void moved(int sheet, int top, int left, int bottom, int right, String after) {
        RangeReaders x = new RangeReaders();
        Check.put(x, 1, sheet, top, left, bottom, right);
        String before = Check.area(x, 0);
        x.rectangle(1, 10, 20, 12, 24);
        Check.due("move with " + before, x.move(2, 110, 220), after.equals(before) ? 0 : 1);
        Check.due("what becomes of " + before, Check.area(x, 0), after);
        Check.due("count()", x.count(), after.equals("none") ? 0 : 1);
    }

    private static void stays(int sheet, int top, int left, int bottom, int right) {
        moved(sheet, top, left, bottom, right, sheet + ": " + top + "," + left + " .. " + bottom + "," + right);
    }

    private static void liesInTheCutOne() {
        Check.sentence("An entry whose rectangle lies in the cut one moves with it");
        moved(1, 10, 20, 12, 24, "2: 110,220 .. 112,224");
        moved(1, 10, 20, 10, 20, "2: 110,220 .. 110,220");
        moved(1, 12, 24, 12, 24, "2: 112,224 .. 112,224");
        moved(1, 10, 24, 12, 24, "2: 110,224 .. 112,224");
        moved(1, 12, 20, 12, 24, "2: 112,220 .. 112,224");
        moved(1, 11, 21, 11, 23, "2: 111,221 .. 111,223");
    }

    private static void doesNotLieInTheCutOne() {
        Check.sentence("An entry whose rectangle lies in the cut one moves with it");
        stays(1, 9, 20, 12, 24);
        stays(1, 10, 19, 12, 24);
        stays(1, 10, 20, 13, 24);
        stays(1, 10, 20, 12, 25);
        stays(1, 9, 20, 9, 24);
        stays(1, 13, 20, 13, 24);
        stays(1, 1, 1, ROWS, COLUMNS);
        stays(0, 10, 20, 12, 24);
        stays(2, 10, 20, 12, 24);
    }

    private static void wholeRectangleLiesInTheGoal() {
        Check.sentence("of the others each whose whole rectangle lies where it is put down goes");
        moved(2, 110, 220, 112, 224, "none");
        moved(2, 110, 220, 110, 220, "none");
        moved(2, 112, 224, 112, 224, "none");
        moved(2, 110, 224, 112, 224, "none");
        moved(2, 112, 220, 112, 224, "none");
        moved(2, 111, 221, 111, 223, "none");
    }

    private static void notWholeInTheGoal() {
        Check.sentence("of the others each whose whole rectangle lies where it is put down goes");
        stays(2, 109, 220, 112, 224);
        stays(2, 110, 219, 112, 224);
        stays(2, 110, 220, 113, 224);
        stays(2, 110, 220, 112, 225);
        stays(2, 109, 220, 109, 224);
        stays(2, 113, 220, 113, 224);
        stays(2, 1, 1, ROWS, COLUMNS);
        stays(1, 110, 220, 112, 224);
        stays(3, 110, 220, 112, 224);
    }

    /** Cut and goal overlap: each moves once, and none goes because of where another was moved. */
    private static void bothByWhatWasBefore() {
        Check.sentence("(Both by what was before.)");
        RangeReaders x = new RangeReaders();
        Check.put(x, 1, 0, 1, 1, 1, 1);
        Check.put(x, 1, 0, 2, 1, 2, 1);
        Check.put(x, 1, 0, 3, 1, 3, 1);
        Check.put(x, 1, 0, 4, 1, 4, 1);
        Check.put(x, 1, 0, 3, 1, 4, 1);
        x.rectangle(0, 1, 1, 3, 1);
        Check.due("move one row down", x.move(0, 2, 1), 5);
        Check.due("entry 0", Check.area(x, 0), "0: 2,1 .. 2,1");
        Check.due("entry 1", Check.area(x, 1), "0: 3,1 .. 3,1");
        Check.due("entry 2", Check.area(x, 2), "0: 4,1 .. 4,1");
        Check.due("entry 3, which lay in the goal", Check.area(x, 3), "none");
        Check.due("entry 4, which lay in the goal", Check.area(x, 4), "none");
    }

    private static void movedOnesDoNotGo() {
        Check.sentence("of the others each whose whole rectangle lies where it is put down goes");
        RangeReaders x = new RangeReaders();
        Check.put(x, 1, 0, 5, 5, 5, 5);
        x.rectangle(0, 4, 4, 6, 6);
        Check.due("a move that has it in the cut and in the goal", x.move(0, 5, 5), 1);
        Check.due("entry 0", Check.area(x, 0), "0: 6,6 .. 6,6");
        Check.due("a move to where it is", x.move(0, 4, 4), 0);
        Check.due("entry 0", Check.area(x, 0), "0: 6,6 .. 6,6");
        Check.due("count()", x.count(), 1);
    }

    private static void howMany() {
        Check.sentence("How many entries changed or went");
        RangeReaders x = new RangeReaders();
        x.rectangle(0, 1, 1, 2, 2);
        Check.due("move without entries", x.move(0, 9, 9), 0);
        Check.put(x, 1, 0, 1, 1, 1, 1);
        Check.put(x, 1, 0, 2, 2, 2, 2);
        Check.put(x, 1, 0, 9, 9, 9, 9);
        Check.put(x, 1, 0, 10, 10, 10, 10);
        Check.put(x, 1, 0, 2, 2, 3, 3);
        Check.put(x, 1, 0, 8, 8, 9, 9);
        x.rectangle(0, 1, 1, 2, 2);
        Check.due("two moved, two went", x.move(0, 9, 9), 4);
        Check.due("count()", x.count(), 4);
        Check.due("nothing is left there", x.move(0, 100, 100), 0);
    }

    private static void cornersOfTheSheet() {
        Check.sentence("put down on a sheet, the upper left one at a row and column");
        RangeReaders x = new RangeReaders();
        Check.put(x, 1, 0, 5, 5, 6, 7);
        Check.due("to the last corner", x.move(7, ROWS - 1, COLUMNS - 2), 1);
        Check.due("entry 0", Check.area(x, 0), "7: 1048575,16382 .. 1048576,16384");
        x.rectangle(7, ROWS - 1, COLUMNS - 2, ROWS, COLUMNS);
        Check.due("to the first corner", x.move(0, 1, 1), 1);
        Check.due("entry 0", Check.area(x, 0), "0: 1,1 .. 2,3");
    }

    private static void wholeSheets() {
        Check.sentence("or not all of it would lie on the sheet");
        RangeReaders x = new RangeReaders();
        Check.put(x, 1, 1, 1, 1, ROWS, COLUMNS);
        Check.put(x, 1, 0, 1, 1, ROWS, COLUMNS);
        Check.put(x, 1, 0, ROWS, COLUMNS, ROWS, COLUMNS);
        x.rectangle(0, 1, 1, ROWS, COLUMNS);
        Check.badArgument(x, "a whole sheet a row lower", () -> x.move(1, 2, 1));
        Check.badArgument(x, "a whole sheet a column further", () -> x.move(1, 1, 2));
        Check.due("a whole sheet onto another", x.move(1, 1, 1), 3);
        Check.due("entry 0", Check.area(x, 0), "none");
        Check.due("entry 1", Check.area(x, 1), "1: 1,1 .. 1048576,16384");
        Check.due("entry 2", Check.area(x, 2), "1: 1048576,16384 .. 1048576,16384");
    }

    /** An entry at the first cell, another with the rectangle 0: 5,5 .. 6,7, and that one is met. */
    private static RangeReaders some() {
        RangeReaders x = new RangeReaders();
        Check.put(x, 1, 0, 1, 1, 1, 1);
        Check.put(x, 2, 0, 5, 5, 6, 7);
        x.meet();
        return x;
    }

    private static void noSuchSheet() {
        Check.sentence("IllegalArgumentException: there is no such sheet");
        for (int sheet : new int[] {LEAST, -1, 8, MOST}) {
            RangeReaders x = some();
            Check.badArgument(x, "move to sheet " + sheet, () -> x.move(sheet, 1, 1));
        }
    }

    private static void noSuchRow() {
        Check.sentence("IllegalArgumentException: there is no such .. row");
        for (int row : new int[] {LEAST, LEAST + 5, -1, 0, ROWS + 1, MOST - 1, MOST}) {
            RangeReaders x = some();
            Check.badArgument(x, "move to row " + row, () -> x.move(0, row, 1));
        }
    }

    private static void noSuchColumn() {
        Check.sentence("IllegalArgumentException: there is no such .. column");
        for (int column : new int[] {LEAST, LEAST + 5, -1, 0, COLUMNS + 1, MOST - 1, MOST}) {
            RangeReaders x = some();
            Check.badArgument(x, "move to column " + column, () -> x.move(0, 1, column));
        }
    }

    private static void notAllOnTheSheet() {
        Check.sentence("or not all of it would lie on the sheet");
        RangeReaders x = some();
        Check.badArgument(x, "a row too low", () -> x.move(0, ROWS, 1));
        Check.badArgument(x, "a column too far", () -> x.move(0, 1, COLUMNS - 1));
        Check.badArgument(x, "two columns too far", () -> x.move(0, 1, COLUMNS));
        Check.badArgument(x, "both", () -> x.move(7, ROWS, COLUMNS));
        Check.due("just not too low nor too far", x.move(0, ROWS - 1, COLUMNS - 2), 1);
    }

    private static void noRectangle() {
        Check.sentence("IllegalStateException: there is no rectangle");
        RangeReaders x = new RangeReaders();
        Check.badState(x, "move(0, 1, 1)", () -> x.move(0, 1, 1));
        Check.badState(x, "move to the last cell", () -> x.move(7, ROWS, COLUMNS));
        x.rectangle(0, 1, 1, ROWS + 1, 1);
        Check.badState(x, "move after a refused rectangle", () -> x.move(0, 1, 1));
        x.rectangle(0, 1, 1, 1, 1);
        Check.due("move with one", x.move(0, 1, 1), 0);
    }
}
