/** move takes along what lies in the rectangle, and lets go what lies where it is put down. */
public final class Promise13MoveTest {
    private static final int ROWS = Check.LAST_ROW;
    private static final int COLUMNS = Check.LAST_COLUMN;

    public static void main(String[] args) {
        ordinary();
        toAnotherSheet();
        ontoItself();
        nowhere();
        edgesOfTheCut();
        edgesOfTheGoal();
        corners();
        wrong();
        Check.end();
    }

    private static void ordinary() {
        RangeReaders x = new RangeReaders();
        Check.put(x, 1, 0, 2, 2, 4, 4);
        Check.put(x, 2, 0, 3, 3, 3, 3);
        Check.put(x, 3, 0, 1, 2, 4, 4);
        Check.put(x, 4, 0, 12, 12, 14, 14);
        Check.put(x, 5, 0, 13, 13, 13, 13);
        Check.put(x, 6, 0, 12, 12, 15, 14);
        Check.put(x, 7, 1, 13, 13, 13, 13);
        Check.put(x, 8, 1, 3, 3, 3, 3);
        x.rectangle(0, 2, 2, 4, 4);
        Check.due("move(0, 12, 12)", x.move(0, 12, 12), 4);
        Check.due("entry 0", Check.area(x, 0), "0: 12,12 .. 14,14");
        Check.due("entry 1", Check.area(x, 1), "0: 13,13 .. 13,13");
        Check.due("entry 2", Check.area(x, 2), "0: 1,2 .. 4,4");
        Check.due("entry 3", Check.area(x, 3), "none");
        Check.due("entry 4", Check.area(x, 4), "none");
        Check.due("entry 5", Check.area(x, 5), "0: 12,12 .. 15,14");
        Check.due("entry 6", Check.area(x, 6), "1: 13,13 .. 13,13");
        Check.due("entry 7", Check.area(x, 7), "1: 3,3 .. 3,3");
        Check.due("its owner", x.entry(1, 5), 2);
        Check.due("count()", x.count(), 6);
        Check.due("a number that went is free", x.add(0), 3);
        Check.due("the rectangle stays where it was", Check.area(x, 3), "0: 2,2 .. 4,4");
    }

    private static void toAnotherSheet() {
        RangeReaders x = new RangeReaders();
        Check.put(x, 1, 0, 2, 2, 4, 4);
        Check.put(x, 2, 7, 2, 2, 4, 4);
        Check.put(x, 3, 7, 2, 2, 4, 5);
        Check.put(x, 4, 6, 2, 2, 4, 4);
        x.rectangle(0, 2, 2, 4, 4);
        Check.due("move(7, 2, 2)", x.move(7, 2, 2), 2);
        Check.due("entry 0", Check.area(x, 0), "7: 2,2 .. 4,4");
        Check.due("entry 1", Check.area(x, 1), "none");
        Check.due("entry 2", Check.area(x, 2), "7: 2,2 .. 4,5");
        Check.due("entry 3", Check.area(x, 3), "6: 2,2 .. 4,4");
    }

    /** Cut and goal overlap: what lies in both was cut, so it moves and doesn't go. */
    private static void ontoItself() {
        RangeReaders x = new RangeReaders();
        Check.put(x, 1, 0, 3, 3, 4, 4);
        Check.put(x, 1, 0, 1, 1, 1, 1);
        Check.put(x, 1, 0, 5, 5, 5, 5);
        Check.put(x, 1, 0, 4, 4, 5, 5);
        x.rectangle(0, 1, 1, 4, 4);
        Check.due("move(0, 2, 2)", x.move(0, 2, 2), 4);
        Check.due("entry 0", Check.area(x, 0), "0: 4,4 .. 5,5");
        Check.due("entry 1", Check.area(x, 1), "0: 2,2 .. 2,2");
        Check.due("entry 2", Check.area(x, 2), "none");
        Check.due("entry 3", Check.area(x, 3), "none");
        Check.due("move(0, 1, 2) of what is left there", x.move(0, 1, 2), 1);
        Check.due("entry 1", Check.area(x, 1), "0: 2,3 .. 2,3");
    }

    private static void nowhere() {
        RangeReaders x = new RangeReaders();
        Check.put(x, 1, 3, 3, 3, 4, 4);
        Check.put(x, 1, 3, 1, 1, 9, 9);
        x.rectangle(3, 2, 2, 5, 5);
        Check.due("move(3, 2, 2)", x.move(3, 2, 2), 0);
        Check.due("entry 0", Check.area(x, 0), "3: 3,3 .. 4,4");
        Check.due("entry 1", Check.area(x, 1), "3: 1,1 .. 9,9");
        Check.due("move(3, 2, 3)", x.move(3, 2, 3), 1);
        Check.due("move(3, 3, 2)", x.move(3, 3, 2), 1);
        Check.due("entry 0", Check.area(x, 0), "3: 4,4 .. 5,5");
    }

    private static void edgesOfTheCut() {
        int[][] out = {{4, 5, 7, 8}, {5, 4, 7, 8}, {5, 5, 9, 8}, {5, 5, 8, 9}};
        for (int[] a : out) {
            RangeReaders x = new RangeReaders();
            Check.put(x, 0, 0, a[0], a[1], a[2], a[3]);
            Check.put(x, 0, 0, 5, 5, 8, 8);
            x.rectangle(0, 5, 5, 8, 8);
            Check.due("move(0, 100, 200)", x.move(0, 100, 200), 1);
            Check.due("one beyond the cut stays", x.entry(0, 1), a[0]);
            Check.due("the cut itself", Check.area(x, 1), "0: 100,200 .. 103,203");
        }
    }

    private static void edgesOfTheGoal() {
        int[][] out = {{99, 200, 103, 203}, {100, 199, 103, 203}, {100, 200, 104, 203}, {100, 200, 103, 204}};
        for (int[] a : out) {
            RangeReaders x = new RangeReaders();
            Check.put(x, 0, 0, a[0], a[1], a[2], a[3]);
            Check.put(x, 0, 0, 100, 200, 103, 203);
            x.rectangle(0, 5, 5, 8, 8);
            Check.due("move(0, 100, 200)", x.move(0, 100, 200), 1);
            Check.due("one beyond the goal stays", x.entry(0, 1), a[0]);
            Check.due("the goal itself", Check.area(x, 1), "none");
        }
    }

    private static void corners() {
        RangeReaders x = new RangeReaders();
        Check.put(x, 0, 0, 2, 3, 4, 6);
        Check.due("to the last corner", x.move(7, ROWS - 2, COLUMNS - 3), 1);
        Check.due("entry 0", Check.area(x, 0), "7: 1048574,16381 .. 1048576,16384");
        x.rectangle(7, ROWS - 2, COLUMNS - 3, ROWS, COLUMNS);
        Check.due("to the first corner", x.move(0, 1, 1), 1);
        Check.due("entry 0", Check.area(x, 0), "0: 1,1 .. 3,4");
        x.rectangle(0, 1, 1, ROWS, COLUMNS);
        Check.due("a whole sheet", x.move(5, 1, 1), 1);
        Check.due("entry 0", Check.area(x, 0), "5: 1,1 .. 3,4");
        Check.badArgument("a whole sheet a row down", () -> x.move(5, 2, 1));
        Check.badArgument("a whole sheet a column on", () -> x.move(5, 1, 2));
    }

    private static void wrong() {
        RangeReaders empty = new RangeReaders();
        Check.badState("move without a rectangle", () -> empty.move(0, 1, 1));
        Check.badArgument("move to no sheet without a rectangle", () -> empty.move(8, 1, 1));
        RangeReaders x = new RangeReaders();
        Check.put(x, 0, 0, 2, 3, 4, 6);
        bad(x, -1, 1, 1);
        bad(x, 8, 1, 1);
        bad(x, 0, 0, 1);
        bad(x, 0, 1, 0);
        bad(x, 0, ROWS + 1, 1);
        bad(x, 0, 1, COLUMNS + 1);
        bad(x, 0, ROWS - 1, 1);
        bad(x, 0, ROWS, 1);
        bad(x, 0, 1, COLUMNS - 2);
        bad(x, 0, 1, COLUMNS);
        bad(x, Integer.MIN_VALUE, Integer.MIN_VALUE, Integer.MIN_VALUE);
        bad(x, 0, Integer.MIN_VALUE, 1);
        bad(x, 0, Integer.MAX_VALUE, 1);
        bad(x, 0, 1, Integer.MIN_VALUE);
        bad(x, 0, 1, Integer.MAX_VALUE);
    }

    private static void bad(RangeReaders x, int sheet, int row, int column) {
        String call = "move(" + sheet + ", " + row + ", " + column + ")";
        Check.badArgument(call, () -> x.move(sheet, row, column));
        Check.due("after " + call, Check.area(x, 0), "0: 2,3 .. 4,6");
    }
}
