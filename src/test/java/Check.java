/** What the tests share: it prints every answer that is not the one due, and counts them. */
final class Check {
    static final int LAST_ROW = 1048576;
    static final int LAST_COLUMN = 16384;

    private static int wrong = 0;
    private static String words = "";

    private Check() {
    }

    /** The words of the document that the answers from here on are about. */
    static void sentence(String quoted) {
        words = "[" + quoted + "] ";
    }

    static void due(String call, long got, long want) {
        due(call, Long.toString(got), Long.toString(want));
    }

    static void due(String call, boolean got, boolean want) {
        due(call, Boolean.toString(got), Boolean.toString(want));
    }

    static void due(String call, String got, String want) {
        if (!got.equals(want)) {
            wrong++;
            System.out.println(words + call + " answered " + got + ", due is " + want);
        }
    }

    static void badArgument(String call, Runnable body) {
        due(call, thrownBy(body), "IllegalArgumentException");
    }

    static void badState(String call, Runnable body) {
        due(call, thrownBy(body), "IllegalStateException");
    }

    /** A call that is refused with an exception, and leaves the object as it was. */
    static void badArgument(RangeReaders x, String call, Runnable body) {
        String before = state(x);
        badArgument(call, body);
        due("the state after " + call, state(x), before);
    }

    /** A call that is refused with an exception, and leaves the object as it was. */
    static void badState(RangeReaders x, String call, Runnable body) {
        String before = state(x);
        badState(call, body);
        due("the state after " + call, state(x), before);
    }

    static String thrownBy(Runnable body) {
        try {
            body.run();
        } catch (RuntimeException e) {
            return e.getClass().getSimpleName();
        }
        return "nothing";
    }

    /** Adds an entry with a rectangle of its own: its number. */
    static int put(RangeReaders x, int owner, int sheet, int top, int left, int bottom, int right) {
        due("rectangle for an entry", x.rectangle(sheet, top, left, bottom, right), true);
        return x.add(owner);
    }

    static String area(RangeReaders x, int n) {
        if (x.entry(n, 0) == RangeReaders.NONE) {
            return "none";
        }
        return x.entry(n, 0) + ": " + x.entry(n, 1) + "," + x.entry(n, 2) + " .. "
                + x.entry(n, 3) + "," + x.entry(n, 4);
    }

    static String met(RangeReaders x) {
        StringBuilder all = new StringBuilder();
        for (int k = 0; x.met(k) != RangeReaders.NONE; k++) {
            all.append(k == 0 ? "" : " ").append(x.met(k));
        }
        return all.toString();
    }

    /** All that can be asked: the entries, what is met, and the next rectangle. */
    static String state(RangeReaders x) {
        StringBuilder all = new StringBuilder();
        int left = x.count();
        for (int n = 0; left > 0 && n < 40000; n++) {
            if (x.entry(n, 0) != RangeReaders.NONE) {
                all.append(n).append(" of ").append(x.entry(n, 5)).append(" at ").append(area(x, n)).append("; ");
                left--;
            }
        }
        return all.append("met ").append(met(x)).append("; next ").append(next(x)).toString();
    }

    /** The next rectangle, seen by an entry that is made with it and goes again. */
    private static String next(RangeReaders x) {
        int[] number = {RangeReaders.NONE};
        String thrown = thrownBy(() -> number[0] = x.add(0));
        String seen = number[0] == RangeReaders.NONE ? thrown : area(x, number[0]);
        x.remove(number[0]);
        return seen;
    }

    static void end() {
        if (wrong != 0) {
            System.out.println(wrong + " answers are not as due");
            System.exit(1);
        }
    }
}
