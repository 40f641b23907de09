/** Entries seen along one direction, so that one test does for rows and for columns. */
final class Lines {
    static final boolean[] BOTH = {false, true};

    private Lines() {
    }

    static int end(boolean columns) {
        return columns ? Check.LAST_COLUMN : Check.LAST_ROW;
    }

    /** Adds an entry of owner 1 with these lines, and 8 .. 9 in the other direction: its number. */
    static int put(RangeReaders x, int sheet, boolean columns, int first, int last) {
        return columns
                ? Check.put(x, 1, sheet, 8, first, 9, last)
                : Check.put(x, 1, sheet, first, 8, last, 9);
    }

    static String of(RangeReaders x, boolean columns, int n) {
        if (x.entry(n, 0) == RangeReaders.NONE) {
            return "none";
        }
        return columns
                ? x.entry(n, 2) + " .. " + x.entry(n, 4)
                : x.entry(n, 1) + " .. " + x.entry(n, 3);
    }

    /** An entry alone on sheet 2, lines put in before it, in it or behind it. */
    static void insert(boolean columns, int first, int last, int at, int n, String lines, int changed) {
        RangeReaders x = new RangeReaders();
        put(x, 2, columns, first, last);
        String call = "insert(2, " + columns + ", " + at + ", " + n + ") with " + first + " .. " + last;
        Check.due(call, x.insert(2, columns, at, n), changed);
        after(x, call, columns, lines);
    }

    /** An entry alone on sheet 2, lines taken out before it, in it or behind it. */
    static void delete(boolean columns, int first, int last, int at, int n, String lines, int changed) {
        RangeReaders x = new RangeReaders();
        put(x, 2, columns, first, last);
        String call = "delete(2, " + columns + ", " + at + ", " + n + ") with " + first + " .. " + last;
        Check.due(call, x.delete(2, columns, at, n), changed);
        after(x, call, columns, lines);
    }

    private static void after(RangeReaders x, String call, boolean columns, String lines) {
        Check.due("the lines after " + call, of(x, columns, 0), lines);
        boolean gone = lines.equals("none");
        Check.due("the other lines after " + call, of(x, !columns, 0), gone ? "none" : "8 .. 9");
        Check.due("the sheet after " + call, x.entry(0, 0), gone ? RangeReaders.NONE : 2);
        Check.due("the owner after " + call, x.entry(0, 5), gone ? RangeReaders.NONE : 1);
        Check.due("count() after " + call, x.count(), gone ? 0 : 1);
    }
}
