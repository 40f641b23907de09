/** Promise 7: rectangles that share one cell, that touch without one, and no rectangle. */
public final class Edges07MeetTest {
    private static final int ROWS = Check.LAST_ROW;
    private static final int COLUMNS = Check.LAST_COLUMN;

    public static void main(String[] args) {
        oneCellInCommon();
        sideBySide();
        oneInTheOther();
        nobodyMeets();
        noRectangle();
        Check.end();
    }

    /** An entry 10,20 .. 12,24 on sheet 4, asked for with another rectangle. */
    private static void meets(int sheet, int top, int left, int bottom, int right, int want) {
        RangeReaders x = new RangeReaders();
        Check.put(x, 0, 4, 10, 20, 12, 24);
        x.rectangle(sheet, top, left, bottom, right);
        String call = "meet() with " + top + "," + left + " .. " + bottom + "," + right;
        Check.due(call, x.meet(), want);
        Check.due("met(0) after " + call, x.met(0), want == 1 ? 0 : RangeReaders.NONE);
    }

    private static void oneCellInCommon() {
        Check.sentence("have a cell in common with the rectangle");
        meets(4, 1, 1, 10, 20, 1);
        meets(4, 1, 24, 10, COLUMNS, 1);
        meets(4, 12, 1, ROWS, 20, 1);
        meets(4, 12, 24, ROWS, COLUMNS, 1);
    }

    private static void sideBySide() {
        Check.sentence("have a cell in common with the rectangle");
        meets(4, 1, 1, 9, COLUMNS, 0);
        meets(4, 13, 1, ROWS, COLUMNS, 0);
        meets(4, 1, 1, ROWS, 19, 0);
        meets(4, 1, 25, ROWS, COLUMNS, 0);
        meets(3, 10, 20, 12, 24, 0);
        meets(5, 10, 20, 12, 24, 0);
    }

    private static void oneInTheOther() {
        Check.sentence("have a cell in common with the rectangle");
        meets(4, 11, 22, 11, 22, 1);
        meets(4, 10, 20, 12, 24, 1);
        meets(4, 1, 1, ROWS, COLUMNS, 1);
        meets(4, 1, 22, ROWS, 22, 1);
        meets(4, 11, 1, 11, COLUMNS, 1);
    }

    private static void nobodyMeets() {
        Check.sentence("are MET: how many");
        RangeReaders x = new RangeReaders();
        Check.put(x, 0, 0, 1, 1, 1, 1);
        Check.due("meet() with its own", x.meet(), 1);
        x.remove(0);
        Check.due("meet() when it went", x.meet(), 0);
        Check.due("met(0)", x.met(0), RangeReaders.NONE);
    }

    private static void noRectangle() {
        Check.sentence("IllegalStateException: there is no rectangle");
        RangeReaders x = new RangeReaders();
        Check.badState(x, "meet()", () -> x.meet());
        x.rectangle(0, 2, 1, 1, 1);
        Check.badState(x, "meet() after a refused rectangle", () -> x.meet());
        x.rectangle(0, 1, 1, 1, 1);
        Check.due("meet() with one", x.meet(), 0);
    }
}
