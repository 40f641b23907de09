import java.util.ArrayList;
import java.util.List;
import java.util.TreeMap;
import java.util.TreeSet;

/**
 * Long runs of calls against a model that knows no arithmetic of rectangles: it follows each line
 * of a rectangle by itself, and asks each cell by itself. Rectangles are small and near the corners
 * of the sheets, or have all lines (those stay out of the line by line work).
 */
public final class ModelTest {
    private static final int RUNS = 400;
    private static final int CALLS = 400;

    /** A fixed row of numbers, so that a failure can be seen again. */
    private static long seed = 20240229;

    private static int upTo(int bound) {
        seed = seed * 6364136223846793005L + 1442695040888963407L;
        return (int) ((seed >>> 33) % bound);
    }

    private static final class Held {
        int sheet;
        int owner;
        Span rows;
        Span columns;

        Held(int sheet, Span rows, Span columns, int owner) {
            this.sheet = sheet;
            this.rows = rows;
            this.columns = columns;
            this.owner = owner;
        }

        Span span(boolean ofColumns) {
            return ofColumns ? columns : rows;
        }

        boolean has(int onSheet, int row, int column) {
            return sheet == onSheet && rows.has(row) && columns.has(column);
        }

        String text() {
            return sheet + ": " + rows.first + "," + columns.first + " .. " + rows.last + "," + columns.last;
        }
    }

    private static final class Span {
        final int first;
        final int last;
        final int end;

        Span(int first, int last, int end) {
            this.first = first;
            this.last = last;
            this.end = end;
        }

        boolean isAll() {
            return first == 1 && last == end;
        }

        boolean has(int line) {
            return line >= first && line <= last;
        }

        boolean common(Span other) {
            if (isAll() || other.isAll()) {
                return true;
            }
            for (int line = first; line <= last; line++) {
                if (other.has(line)) {
                    return true;
                }
            }
            return false;
        }

        boolean inside(Span other) {
            if (isAll() || other.isAll()) {
                return other.isAll();
            }
            for (int line = first; line <= last; line++) {
                if (!other.has(line)) {
                    return false;
                }
            }
            return true;
        }

        Span at(int newFirst) {
            return new Span(newFirst, newFirst + last - first, end);
        }

        /** Null if nothing is left. */
        Span of(TreeSet<Integer> lines) {
            return lines.isEmpty() ? null : new Span(lines.first(), lines.last(), end);
        }

        Span afterInsert(int at, int n) {
            TreeSet<Integer> lines = new TreeSet<>();
            for (int line = first; line <= last; line++) {
                int now = line < at ? line : line + n;
                if (line == at && line > first) {
                    for (int put = at; put < at + n && put <= end; put++) {
                        lines.add(put);
                    }
                }
                if (now <= end) {
                    lines.add(now);
                }
            }
            return of(lines);
        }

        Span afterDelete(int at, int n) {
            TreeSet<Integer> lines = new TreeSet<>();
            for (int line = first; line <= last; line++) {
                if (line < at) {
                    lines.add(line);
                } else if (line >= at + n) {
                    lines.add(line - n);
                }
            }
            return of(lines);
        }
    }

    private final RangeReaders real = new RangeReaders();
    private final TreeMap<Integer, Held> model = new TreeMap<>();
    private List<Integer> met = new ArrayList<>();
    private Held next = null;

    public static void main(String[] args) {
        for (int run = 0; run < RUNS; run++) {
            ModelTest test = new ModelTest();
            for (int call = 0; call < CALLS; call++) {
                test.step();
            }
        }
        Check.end();
    }

    private void step() {
        switch (upTo(12)) {
            case 0, 1, 2, 3 -> rectangle();
            case 4, 5 -> {
                rectangle();
                add();
            }
            case 6 -> leave();
            case 7 -> question();
            case 8 -> lines(true);
            case 9 -> lines(false);
            case 10 -> move();
            default -> add();
        }
        compare();
    }

    private static int line(int end) {
        return switch (upTo(5)) {
            case 0 -> end - upTo(12);
            case 1 -> 1;
            default -> 1 + upTo(14);
        };
    }

    private static Span span(int end) {
        if (upTo(8) == 0) {
            return new Span(1, end, end);
        }
        int first = line(end);
        return new Span(first, Math.min(end, first + upTo(6)), end);
    }

    private void rectangle() {
        Held now = new Held(upTo(2), span(Check.LAST_ROW), span(Check.LAST_COLUMN), 0);
        boolean taken = real.rectangle(now.sheet, now.rows.first, now.columns.first, now.rows.last, now.columns.last);
        Check.due("rectangle " + now.text(), taken, true);
        next = now;
        if (upTo(4) == 0) {
            Check.due("a wrong rectangle", real.rectangle(0, 5, 5, 4, 5), false);
        }
    }

    private void add() {
        int owner = upTo(9);
        if (next == null) {
            Check.badArgument("add without a rectangle", () -> real.add(owner));
            return;
        }
        int number = 0;
        while (model.containsKey(number)) {
            number++;
        }
        Check.due("add", real.add(owner), number);
        model.put(number, new Held(next.sheet, next.rows, next.columns, owner));
    }

    private void leave() {
        if (upTo(6) == 0) {
            int owner = upTo(10);
            int before = model.size();
            model.values().removeIf(h -> h.owner == owner);
            Check.due("drop", real.drop(owner), before - model.size());
        } else {
            int number = upTo(model.size() + 3);
            Check.due("remove", real.remove(number), model.remove(number) != null);
        }
    }

    private void question() {
        List<Integer> found = new ArrayList<>();
        if (next != null && upTo(2) == 0) {
            model.forEach((n, h) -> {
                if (h.sheet == next.sheet && h.rows.common(next.rows) && h.columns.common(next.columns)) {
                    found.add(n);
                }
            });
            Check.due("meet", real.meet(), found.size());
        } else {
            int sheet = upTo(2);
            int row = line(Check.LAST_ROW);
            int column = line(Check.LAST_COLUMN);
            model.forEach((n, h) -> {
                if (h.has(sheet, row, column)) {
                    found.add(n);
                }
            });
            Check.due("readers", real.readers(sheet, row, column), found.size());
        }
        met = found;
    }

    private void lines(boolean putIn) {
        int sheet = upTo(2);
        boolean columns = upTo(2) == 0;
        int at = line(columns ? Check.LAST_COLUMN : Check.LAST_ROW);
        int n = 1 + upTo(4);
        int touched = 0;
        for (Integer number : new ArrayList<>(model.keySet())) {
            Held h = model.get(number);
            Span was = h.span(columns);
            if (h.sheet != sheet || was.isAll()) {
                continue;
            }
            Span now = putIn ? was.afterInsert(at, n) : was.afterDelete(at, n);
            touched += now == null || now.first != was.first || now.last != was.last ? 1 : 0;
            if (now == null) {
                model.remove(number);
            } else if (columns) {
                h.columns = now;
            } else {
                h.rows = now;
            }
        }
        int got = putIn ? real.insert(sheet, columns, at, n) : real.delete(sheet, columns, at, n);
        Check.due((putIn ? "insert " : "delete ") + sheet + " " + columns + " " + at + " " + n, got, touched);
    }

    private void move() {
        int sheet = upTo(2);
        int row = line(Check.LAST_ROW);
        int column = line(Check.LAST_COLUMN);
        if (next == null) {
            Check.badState("move without a rectangle", () -> real.move(sheet, row, column));
            return;
        }
        Span rows = next.rows.at(row);
        Span columns = next.columns.at(column);
        if (rows.last > rows.end || columns.last > columns.end) {
            Check.badArgument("move beyond the sheet", () -> real.move(sheet, row, column));
            return;
        }
        int down = row - next.rows.first;
        int on = column - next.columns.first;
        int touched = 0;
        for (Integer number : new ArrayList<>(model.keySet())) {
            Held h = model.get(number);
            String before = h.text();
            if (h.sheet == next.sheet && h.rows.inside(next.rows) && h.columns.inside(next.columns)) {
                h.sheet = sheet;
                h.rows = h.rows.at(h.rows.first + down);
                h.columns = h.columns.at(h.columns.first + on);
                touched += h.text().equals(before) ? 0 : 1;
            } else if (h.sheet == sheet && h.rows.inside(rows) && h.columns.inside(columns)) {
                model.remove(number);
                touched++;
            }
        }
        Check.due("move " + next.text() + " to " + sheet + " " + row + " " + column,
                real.move(sheet, row, column), touched);
    }

    private void compare() {
        Check.due("count", real.count(), model.size());
        int beyond = model.isEmpty() ? 0 : model.lastKey() + 1;
        for (int n = 0; n <= beyond; n++) {
            Held h = model.get(n);
            Check.due("entry " + n, Check.area(real, n), h == null ? "none" : h.text());
            Check.due("owner of " + n, real.entry(n, 5), h == null ? RangeReaders.NONE : h.owner);
        }
        for (int k = 0; k <= met.size(); k++) {
            Check.due("met(" + k + ")", real.met(k), k < met.size() ? met.get(k) : RangeReaders.NONE);
        }
    }
}
