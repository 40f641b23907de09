/**
 * Who reads a cell of a workbook: rectangles of cells on several sheets, each with an owner, found
 * by a cell or by a rectangle that they meet, and moved when rows or columns are put in, taken out,
 * or cut and put elsewhere.
 */
public final class RangeReaders {
    /** Nothing there. */
    public static final int NONE = -1;

    private static final int SHEETS = 8;
    private static final int LAST_ROW = 1048576;
    private static final int LAST_COLUMN = 16384;
    private static final int OWNERS = 16384;
    private static final int MOST_LINES_AT_ONCE = 16384;
    private static final int MOST_ENTRIES = 32768;
    // Small, because many objects may live in one room and most hold few entries.
    private static final int FIRST_ROOM = 16;

    /** The next rectangle; null as long as there is none. */
    private Area next;

    /** The entry of each number; null where the number is free. */
    private Entry[] entries;

    private int held;

    /** The numbers that the last question found, rising, in the first metCount places. */
    private int[] metNumbers;

    private int metCount;

    public RangeReaders() {
        next = null;
        entries = new Entry[FIRST_ROOM];
        held = 0;
        metNumbers = new int[FIRST_ROOM];
        metCount = 0;
    }

    public boolean rectangle(int sheet, int top, int left, int bottom, int right) {
        boolean corners = isCell(sheet, top, left) && isCell(sheet, bottom, right);
        if (!corners || bottom < top || right < left) {
            return false;
        }
        next = new Area(sheet, top, left, bottom, right);
        return true;
    }

    public int add(int owner) throws IllegalArgumentException, IllegalStateException {
        if (next == null) {
            throw new IllegalArgumentException("there is no rectangle");
        }
        if (owner < 0 || owner >= OWNERS) {
            throw new IllegalArgumentException("there is no such owner");
        }
        if (held >= MOST_ENTRIES) {
            throw new IllegalStateException("there is no room for another entry");
        }
        makeRoom();
        int number = lowestFree();
        if (number < entries.length) {
            entries[number] = new Entry(next.copy(), owner);
            held++;
        }
        return number;
    }

    public boolean remove(int entry) {
        if (entryAt(entry) == null) {
            return false;
        }
        release(entry);
        return true;
    }

    public int drop(int owner) {
        int gone = 0;
        for (int i = 0; i < entries.length; i++) {
            Entry e = entries[i];
            if (e != null && e.owner == owner) {
                release(i);
                gone++;
            }
        }
        return gone;
    }

    public int readers(int sheet, int row, int column) throws IllegalArgumentException {
        if (!isCell(sheet, row, column)) {
            throw new IllegalArgumentException("there is no such cell");
        }
        findMeeting(new Area(sheet, row, column, row, column));
        return metCount;
    }

    public int meet() throws IllegalStateException {
        if (next == null) {
            throw new IllegalStateException("there is no rectangle");
        }
        findMeeting(next);
        return metCount;
    }

    public int met(int k) {
        if (k < 0 || k >= metCount || k >= metNumbers.length) {
            return NONE;
        }
        return metNumbers[k];
    }

    public int entry(int n, int what) {
        Entry e = entryAt(n);
        if (e == null) {
            return NONE;
        }
        switch (what) {
            case 0:
                return e.area.sheet;
            case 1:
                return e.area.top;
            case 2:
                return e.area.left;
            case 3:
                return e.area.bottom;
            case 4:
                return e.area.right;
            case 5:
                return e.owner;
            default:
                return NONE;
        }
    }

    public int count() {
        return held;
    }

    public int insert(int sheet, boolean columns, int at, int n) throws IllegalArgumentException {
        if (!areLines(sheet, columns, at, n)) {
            throw new IllegalArgumentException("there is no such sheet, line or number of lines");
        }
        int end = lastLine(columns);
        int touched = 0;
        for (int i = 0; i < entries.length; i++) {
            Entry e = entries[i];
            if (e != null && e.area.yieldsTo(sheet, columns)) {
                int first = e.area.first(columns);
                int last = e.area.last(columns);
                int newFirst = first < at ? first : first + n;
                int newLast = last < at ? last : Math.min(last + n, end);
                touched += putLines(i, columns, newFirst, newLast);
            }
        }
        return touched;
    }

    public int delete(int sheet, boolean columns, int at, int n) throws IllegalArgumentException {
        if (!areLines(sheet, columns, at, n)) {
            throw new IllegalArgumentException("there is no such sheet, line or number of lines");
        }
        int touched = 0;
        for (int i = 0; i < entries.length; i++) {
            Entry e = entries[i];
            if (e != null && e.area.yieldsTo(sheet, columns)) {
                int first = e.area.first(columns);
                int last = e.area.last(columns);
                // A first line that is taken out gives way to the one behind the gap, a last line to
                // the one before it: so they cross when nothing is left.
                int newFirst = first < at ? first : Math.max(first - n, at);
                int newLast = last < at ? last : Math.max(last - n, at - 1);
                touched += putLines(i, columns, newFirst, newLast);
            }
        }
        return touched;
    }

    public int move(int sheet, int row, int column)
            throws IllegalArgumentException, IllegalStateException {
        if (!isCell(sheet, row, column)) {
            throw new IllegalArgumentException("there is no such sheet, row or column");
        }
        if (next == null) {
            throw new IllegalStateException("there is no rectangle");
        }
        Area goal = next.copy();
        goal.shift(sheet, row - next.top, column - next.left);
        if (!isCell(sheet, goal.bottom, goal.right)) {
            throw new IllegalArgumentException("the rectangle would not lie on the sheet");
        }
        return carry(next, goal);
    }

    private static boolean isSheet(int sheet) {
        return sheet >= 0 && sheet < SHEETS;
    }

    private static int lastLine(boolean columns) {
        return columns ? LAST_COLUMN : LAST_ROW;
    }

    private static boolean isLine(boolean columns, int line) {
        return line >= 1 && line <= lastLine(columns);
    }

    private static boolean isCell(int sheet, int row, int column) {
        return isSheet(sheet) && isLine(false, row) && isLine(true, column);
    }

    private static boolean areLines(int sheet, boolean columns, int at, int n) {
        return isSheet(sheet) && isLine(columns, at) && n >= 1 && n <= MOST_LINES_AT_ONCE;
    }

    /** The entry of a number; null if there is none. */
    private Entry entryAt(int number) {
        return number >= 0 && number < entries.length ? entries[number] : null;
    }

    private void release(int number) {
        if (number >= 0 && number < entries.length && entries[number] != null) {
            entries[number] = null;
            held--;
        }
    }

    /** Sees to it that a number is free among those that the array has. */
    private void makeRoom() {
        if (held < entries.length) {
            return;
        }
        Entry[] wider = new Entry[Math.min(2 * held, MOST_ENTRIES)];
        for (int i = 0; i < entries.length && i < wider.length; i++) {
            wider[i] = entries[i];
        }
        entries = wider;
    }

    private int lowestFree() {
        int number = 0;
        while (number < entries.length && entries[number] != null) {
            number++;
        }
        return number;
    }

    private void findMeeting(Area asked) {
        // What was met before is forgotten here anyway, so nothing needs to be copied over.
        if (metNumbers.length < entries.length) {
            metNumbers = new int[entries.length];
        }
        metCount = 0;
        for (int i = 0; i < entries.length; i++) {
            Entry e = entries[i];
            if (e != null && e.area.meets(asked) && metCount < metNumbers.length) {
                metNumbers[metCount] = i;
                metCount++;
            }
        }
    }

    /** Gives an entry new lines, or lets it go if they are none: 1 if that made a difference. */
    private int putLines(int number, boolean columns, int first, int last) {
        Entry e = entryAt(number);
        if (e == null) {
            return 0;
        }
        Area area = e.area;
        // One that reaches the last line is cut back to what it was when it becomes longer.
        if (first == area.first(columns) && last == area.last(columns)) {
            return 0;
        }
        if (first > last) {
            release(number);
        } else {
            area.setLines(columns, first, last);
        }
        return 1;
    }

    /** Cuts one area and puts it down on another of its size: how many entries changed or went. */
    private int carry(Area cut, Area goal) {
        int rows = goal.top - cut.top;
        int columns = goal.left - cut.left;
        if (goal.sheet == cut.sheet && rows == 0 && columns == 0) {
            return 0;
        }
        int touched = 0;
        for (int i = 0; i < entries.length; i++) {
            Entry e = entries[i];
            if (e != null && e.area.liesIn(cut)) {
                e.area.shift(goal.sheet, rows, columns);
                touched++;
            } else if (e != null && e.area.liesIn(goal)) {
                release(i);
                touched++;
            }
        }
        return touched;
    }

    /** A rectangle of cells; its lines are its rows or its columns. */
    private static final class Area {
        private int sheet;
        private int top;
        private int left;
        private int bottom;
        private int right;

        private Area(int sheet, int top, int left, int bottom, int right) {
            this.sheet = sheet;
            this.top = top;
            this.left = left;
            this.bottom = bottom;
            this.right = right;
        }

        private Area copy() {
            return new Area(sheet, top, left, bottom, right);
        }

        private int first(boolean columns) {
            return columns ? left : top;
        }

        private int last(boolean columns) {
            return columns ? right : bottom;
        }

        private void setLines(boolean columns, int first, int last) {
            if (columns) {
                left = first;
                right = last;
            } else {
                top = first;
                bottom = last;
            }
        }

        private void shift(int toSheet, int rows, int columns) {
            sheet = toSheet;
            top += rows;
            bottom += rows;
            left += columns;
            right += columns;
        }

        /** Whether lines put in or taken out on a sheet can change it: not if it has them all. */
        private boolean yieldsTo(int onSheet, boolean columns) {
            boolean hasAll = first(columns) == 1 && last(columns) == lastLine(columns);
            return sheet == onSheet && !hasAll;
        }

        private boolean meets(Area other) {
            return sheet == other.sheet
                    && top <= other.bottom && other.top <= bottom
                    && left <= other.right && other.left <= right;
        }

        private boolean liesIn(Area other) {
            return sheet == other.sheet
                    && other.top <= top && bottom <= other.bottom
                    && other.left <= left && right <= other.right;
        }
    }

    /** An area and who reads it. */
    private static final class Entry {
        private final Area area;
        private final int owner;

        private Entry(Area area, int owner) {
            this.area = area;
            this.owner = owner;
        }
    }
}
