/**
 * Rectangles of any length, and up to 16384 lines put in or taken out at once: what insert and delete
 * do is said line by line, and asked by readers at the lines where something can go wrong. (ModelTest
 * follows every line, but only of short rectangles.)
 */
public final class LongSpansTest {
    private static final int RUNS = 1500;
    private static final int ENTRIES = 8;
    private static final int CHANGES = 5;
    private static final int MOST_LINES = 16384;
    private static final int SHEET = 5;

    /** A fixed row of numbers, so that a failure can be seen again. */
    private static long seed = 20261116;

    private final RangeReaders x = new RangeReaders();
    private final boolean columns;
    private final int end;

    private LongSpansTest(boolean columns) {
        this.columns = columns;
        this.end = Lines.end(columns);
    }

    public static void main(String[] args) {
        for (int run = 0; run < RUNS; run++) {
            LongSpansTest test = new LongSpansTest(run % 2 == 0);
            test.fill();
            for (int change = 0; change < CHANGES; change++) {
                test.change(upTo(2) == 0);
            }
        }
        Check.end();
    }

    private static int upTo(int bound) {
        seed = seed * 6364136223846793005L + 1442695040888963407L;
        return (int) ((seed >>> 33) % bound);
    }

    /** Anywhere, or near the first line, or near the last. */
    private int line() {
        return switch (upTo(4)) {
            case 0 -> 1 + upTo(40);
            case 1 -> end - upTo(40);
            default -> 1 + upTo(end);
        };
    }

    private static int many() {
        return switch (upTo(4)) {
            case 0 -> 1 + upTo(40);
            case 1 -> MOST_LINES - upTo(40);
            case 2 -> MOST_LINES;
            default -> 1 + upTo(MOST_LINES);
        };
    }

    /** In the other direction each entry has one line, of its own, so that readers tells them apart. */
    private void fill() {
        for (int i = 0; i < ENTRIES; i++) {
            int a = upTo(9) == 0 ? 1 : line();
            int b = upTo(9) == 0 ? end : line();
            int first = Math.min(a, b);
            int last = Math.max(a, b);
            int number = columns
                    ? Check.put(x, 0, SHEET, i + 1, first, i + 1, last)
                    : Check.put(x, 0, SHEET, first, i + 1, last, i + 1);
            Check.due("its number", number, i);
        }
    }

    private void change(boolean putIn) {
        int[] firsts = lines(1, 2);
        int[] lasts = lines(3, 4);
        // Near an edge of an entry, half of the time.
        int edge = upTo(2) == 0 ? firsts[upTo(ENTRIES)] : lasts[upTo(ENTRIES)];
        int at = upTo(2) == 0 || edge < 1 ? line() : Math.max(1, Math.min(end, edge - 2 + upTo(5)));
        int n = many();
        String call = (putIn ? "insert(" : "delete(") + SHEET + ", " + columns + ", " + at + ", " + n + ")";
        int touched = putIn ? x.insert(SHEET, columns, at, n) : x.delete(SHEET, columns, at, n);
        int seen = 0;
        for (int i = 0; i < ENTRIES; i++) {
            if (firsts[i] != RangeReaders.NONE) {
                String about = call + " with " + firsts[i] + " .. " + lasts[i];
                Span was = new Span(firsts[i], lasts[i], end);
                seen += differs(i, was) ? 1 : 0;
                ask(about, i, was, putIn, at, n);
            }
        }
        Check.due(call, touched, seen);
        sound(call);
    }

    /** What is no line of the sheet can't be asked by readers. */
    private void sound(String call) {
        int[] firsts = lines(1, 2);
        int[] lasts = lines(3, 4);
        int left = 0;
        for (int i = 0; i < ENTRIES; i++) {
            if (firsts[i] != RangeReaders.NONE) {
                left++;
                boolean is = firsts[i] >= 1 && firsts[i] <= lasts[i] && lasts[i] <= end;
                Check.due(firsts[i] + " .. " + lasts[i] + " is a rectangle's after " + call, is, true);
            }
        }
        Check.due("count() after " + call, x.count(), left);
    }

    private int[] lines(int ofRows, int ofColumns) {
        int[] all = new int[ENTRIES];
        for (int i = 0; i < ENTRIES; i++) {
            all[i] = x.entry(i, columns ? ofColumns : ofRows);
        }
        return all;
    }

    private boolean differs(int number, Span was) {
        return !Lines.of(x, columns, number).equals(was.first + " .. " + was.last);
    }

    private void ask(String about, int number, Span was, boolean putIn, int at, int n) {
        int[] lines = {
            1, 2, was.first - n, was.first - 1, was.first, was.first + 1, was.first + n - 1, was.first + n,
            was.last - n, was.last - n + 1, was.last - 1, was.last, was.last + 1, was.last + n, was.last + n + 1,
            at - 1, at, at + 1, at + n - 1, at + n, at + n + 1, end - n, end - n + 1, end - 1, end, line(), line(),
        };
        for (int line : lines) {
            if (line >= 1 && line <= end) {
                boolean due = putIn ? was.hasAfterInsert(line, at, n) : was.hasAfterDelete(line, at, n);
                Check.due(about + ": line " + line, reads(number, line), due);
            }
        }
    }

    private boolean reads(int number, int line) {
        int found = columns ? x.readers(SHEET, number + 1, line) : x.readers(SHEET, line, number + 1);
        Check.due("who else", found == 0 || found == 1 && x.met(0) == number, true);
        return found == 1;
    }

    private record Span(int first, int last, int end) {
        boolean has(int line) {
            return first <= line && line <= last;
        }

        boolean isAll() {
            return first == 1 && last == end;
        }

        boolean hasAfterInsert(int line, int at, int n) {
            if (line < at || isAll()) {
                return has(line);
            }
            return line < at + n ? has(at - 1) && has(at) : has(line - n);
        }

        boolean hasAfterDelete(int line, int at, int n) {
            return has(line < at || isAll() ? line : line + n);
        }
    }
}
