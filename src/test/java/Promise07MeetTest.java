/** meet finds the entries that have a cell in common with the rectangle. */
public final class Promise07MeetTest {
    public static void main(String[] args) {
        withoutRectangle();
        everyOverlap();
        onlyItsSheet();
        Check.end();
    }

    private static void withoutRectangle() {
        RangeReaders x = new RangeReaders();
        Check.badState("meet()", () -> x.meet());
        x.rectangle(0, 0, 0, 0, 0);
        Check.badState("meet() after a refused rectangle", () -> x.meet());
        x.rectangle(0, 1, 1, 1, 1);
        Check.due("meet() without entries", x.meet(), 0);
    }

    private static void everyOverlap() {
        for (int top = 1; top <= 6; top++) {
            for (int bottom = top; bottom <= 6; bottom++) {
                for (int left = 1; left <= 6; left++) {
                    for (int right = left; right <= 6; right++) {
                        overlap(top, left, bottom, right);
                    }
                }
            }
        }
    }

    private static void overlap(int top, int left, int bottom, int right) {
        boolean common = false;
        for (int row = top; row <= bottom; row++) {
            for (int column = left; column <= right; column++) {
                common |= row >= 3 && row <= 4 && column >= 2 && column <= 4;
            }
        }
        RangeReaders x = new RangeReaders();
        Check.put(x, 0, 5, 3, 2, 4, 4);
        x.rectangle(5, top, left, bottom, right);
        String call = "meet() with " + top + "," + left + " .. " + bottom + "," + right;
        Check.due(call, x.meet(), common ? 1 : 0);
        Check.due("met(0)", x.met(0), common ? 0 : RangeReaders.NONE);
    }

    private static void onlyItsSheet() {
        RangeReaders x = new RangeReaders();
        for (int i = 0; i < 16; i++) {
            Check.put(x, 0, i % 8, 1, 1, 2, 2);
        }
        x.rectangle(6, 2, 2, Check.LAST_ROW, Check.LAST_COLUMN);
        Check.due("meet()", x.meet(), 2);
        Check.due("met", Check.met(x), "6 14");
    }
}
