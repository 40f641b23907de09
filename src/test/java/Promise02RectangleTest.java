/** rectangle takes what is on a sheet, and refuses the rest. */
public final class Promise02RectangleTest {
    private static final int ROWS = Check.LAST_ROW;
    private static final int COLUMNS = Check.LAST_COLUMN;

    public static void main(String[] args) {
        taken(0, 1, 1, 1, 1);
        taken(7, ROWS, COLUMNS, ROWS, COLUMNS);
        taken(3, 1, 1, ROWS, COLUMNS);
        taken(1, 5, 9, 5, 9);
        taken(2, 17000, 1, 17000, 1);
        refused(-1, 1, 1, 1, 1);
        refused(8, 1, 1, 1, 1);
        refused(0, 0, 1, 1, 1);
        refused(0, 1, 0, 1, 1);
        refused(0, 1, 1, ROWS + 1, 1);
        refused(0, 1, 1, 1, COLUMNS + 1);
        refused(0, ROWS + 1, 1, ROWS + 1, 1);
        refused(0, 1, COLUMNS + 1, 1, COLUMNS + 1);
        refused(0, 3, 1, 2, 1);
        refused(0, 1, 3, 1, 2);
        refused(0, -5, 1, 2, 1);
        refused(0, 1, -5, 1, 2);
        refused(0, 1, 1, 0, 1);
        refused(0, 1, 1, 1, 0);
        refused(Integer.MIN_VALUE, 1, 1, 1, 1);
        refused(Integer.MAX_VALUE, 1, 1, 1, 1);
        refused(0, Integer.MIN_VALUE, 1, Integer.MAX_VALUE, 1);
        refused(0, 1, Integer.MIN_VALUE, 1, Integer.MAX_VALUE);
        itOutlivesItsUses();
        Check.end();
    }

    private static void taken(int sheet, int top, int left, int bottom, int right) {
        RangeReaders x = new RangeReaders();
        Check.due("rectangle", x.rectangle(sheet, top, left, bottom, right), true);
        Check.due("add(0)", x.add(0), 0);
        String want = sheet + ": " + top + "," + left + " .. " + bottom + "," + right;
        Check.due("the entry", Check.area(x, 0), want);
    }

    private static void refused(int sheet, int top, int left, int bottom, int right) {
        String call = "rectangle(" + sheet + ", " + top + ", " + left + ", " + bottom + ", " + right + ")";
        RangeReaders x = new RangeReaders();
        Check.due(call, x.rectangle(sheet, top, left, bottom, right), false);
        Check.badState("meet() after " + call, () -> x.meet());
        x.rectangle(4, 10, 20, 30, 40);
        Check.due(call, x.rectangle(sheet, top, left, bottom, right), false);
        Check.due("add(0)", x.add(0), 0);
        Check.due("the one before stays", Check.area(x, 0), "4: 10,20 .. 30,40");
    }

    private static void itOutlivesItsUses() {
        RangeReaders x = new RangeReaders();
        x.rectangle(0, 5, 5, 6, 6);
        x.add(1);
        x.meet();
        x.insert(0, false, 1, 10);
        x.delete(0, true, 1, 2);
        x.move(1, 1, 1);
        x.remove(0);
        x.readers(0, 1, 1);
        x.add(2);
        Check.due("the rectangle is as it was given", Check.area(x, 0), "0: 5,5 .. 6,6");
        x.insert(0, false, 1, 1);
        x.add(2);
        Check.due("an entry keeps its own", Check.area(x, 0), "0: 6,5 .. 7,6");
        Check.due("the next one", Check.area(x, 1), "0: 5,5 .. 6,6");
    }
}
