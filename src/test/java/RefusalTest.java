/**
 * Wrong and right arguments in every state: each call throws exactly when, and what, the document
 * says, and a call that is refused leaves everything as it was.
 */
public final class RefusalTest {
    private static final int RUNS = 300;
    private static final int CALLS = 60;
    private static final int ROWS = Check.LAST_ROW;
    private static final int COLUMNS = Check.LAST_COLUMN;
    private static final int[] NUMBERS = {
        Integer.MIN_VALUE, Integer.MIN_VALUE + 1, -ROWS, -COLUMNS, -1, 0, 1, 2, 3, 6, 7, 8, 9, 15, 16, 17,
        COLUMNS - 1, COLUMNS, COLUMNS + 1, 32767, 32768, ROWS - 1, ROWS, ROWS + 1,
        Integer.MAX_VALUE - COLUMNS, Integer.MAX_VALUE - 1, Integer.MAX_VALUE,
    };

    /** A fixed row of numbers, so that a failure can be seen again. */
    private static long seed = 19990131;

    private final RangeReaders x = new RangeReaders();

    /** The size of the next rectangle; 0 as long as there is none. */
    private int height = 0;
    private int width = 0;

    public static void main(String[] args) {
        for (int run = 0; run < RUNS; run++) {
            RefusalTest test = new RefusalTest();
            for (int call = 0; call < CALLS; call++) {
                test.step();
            }
        }
        Check.end();
    }

    private static int upTo(int bound) {
        seed = seed * 6364136223846793005L + 1442695040888963407L;
        return (int) ((seed >>> 33) % bound);
    }

    /** Half of the time one that fits, so that not every call is refused. */
    private static int number(int last) {
        return upTo(2) == 0 ? 1 + upTo(last) : NUMBERS[upTo(NUMBERS.length)];
    }

    private static int sheet() {
        return upTo(4) != 0 ? upTo(8) : NUMBERS[upTo(NUMBERS.length)];
    }

    private static boolean isLine(int line, int last) {
        return line >= 1 && line <= last;
    }

    private static boolean isCell(int sheet, int row, int column) {
        return sheet >= 0 && sheet <= 7 && isLine(row, ROWS) && isLine(column, COLUMNS);
    }

    private void step() {
        switch (upTo(9)) {
            case 0, 1 -> rectangle();
            case 2, 3 -> add();
            case 4 -> readers();
            case 5 -> lines(false);
            case 6 -> lines(true);
            case 7 -> move();
            default -> neverThrow();
        }
    }

    private void expect(String call, String exception, Runnable body) {
        String before = Check.state(x);
        Check.due(call + " throws", Check.thrownBy(body), exception);
        if (!exception.equals("nothing")) {
            Check.due("the state after " + call, Check.state(x), before);
        }
    }

    private void rectangle() {
        int sheet = sheet();
        int top = number(9);
        int left = number(9);
        int bottom = upTo(3) == 0 ? number(9) : Math.min(top, ROWS) + upTo(3);
        int right = upTo(3) == 0 ? number(9) : Math.min(left, COLUMNS) + upTo(3);
        boolean is = isCell(sheet, top, left) && isCell(sheet, bottom, right) && top <= bottom && left <= right;
        String before = Check.state(x);
        String call = "rectangle(" + sheet + ", " + top + ", " + left + ", " + bottom + ", " + right + ")";
        Check.due(call, x.rectangle(sheet, top, left, bottom, right), is);
        if (is) {
            height = bottom - top + 1;
            width = right - left + 1;
        } else {
            Check.due("the state after " + call, Check.state(x), before);
        }
    }

    private void add() {
        int owner = number(16383);
        boolean is = height > 0 && owner >= 0 && owner <= 16383;
        expect("add(" + owner + ")", is ? "nothing" : "IllegalArgumentException", () -> x.add(owner));
    }

    private void readers() {
        int sheet = sheet();
        int row = number(12);
        int column = number(12);
        expect("readers(" + sheet + ", " + row + ", " + column + ")",
                isCell(sheet, row, column) ? "nothing" : "IllegalArgumentException",
                () -> x.readers(sheet, row, column));
        expect("meet()", height > 0 ? "nothing" : "IllegalStateException", () -> x.meet());
    }

    private void lines(boolean putIn) {
        int sheet = sheet();
        boolean columns = upTo(2) == 0;
        int at = number(12);
        int n = number(4);
        boolean is = sheet >= 0 && sheet <= 7 && isLine(at, columns ? COLUMNS : ROWS) && isLine(n, 16384);
        expect((putIn ? "insert(" : "delete(") + sheet + ", " + columns + ", " + at + ", " + n + ")",
                is ? "nothing" : "IllegalArgumentException",
                () -> {
                    int touched = putIn ? x.insert(sheet, columns, at, n) : x.delete(sheet, columns, at, n);
                    Check.due("none counts twice", touched >= 0 && touched <= CALLS, true);
                });
    }

    private void move() {
        int sheet = sheet();
        int row = number(12);
        int column = number(12);
        String exception = "nothing";
        if (!isCell(sheet, row, column)) {
            exception = "IllegalArgumentException";
        } else if (height == 0) {
            exception = "IllegalStateException";
        } else if (row > ROWS - height + 1 || column > COLUMNS - width + 1) {
            exception = "IllegalArgumentException";
        }
        expect("move(" + sheet + ", " + row + ", " + column + ")", exception, () -> x.move(sheet, row, column));
    }

    private void neverThrow() {
        int n = NUMBERS[upTo(NUMBERS.length)];
        int what = NUMBERS[upTo(NUMBERS.length)];
        expect("met(" + n + ")", "nothing", () -> x.met(n));
        expect("entry(" + n + ", " + what + ")", "nothing", () -> x.entry(n, what));
        expect("count()", "nothing", () -> x.count());
        expect("remove(" + n + ")", "nothing", () -> x.remove(n));
        expect("drop(" + n + ")", "nothing", () -> x.drop(n));
    }
}
