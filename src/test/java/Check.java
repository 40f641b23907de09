/** What the tests share: it prints every answer that is not the one due, and counts them. */
final class Check {
    static final int LAST_ROW = 1048576;
    static final int LAST_COLUMN = 16384;

    private static int wrong = 0;

    private Check() {
    }

    static void due(String call, long got, long want) {
        if (got != want) {
            wrong++;
            System.out.println(call + " answered " + got + ", due is " + want);
        }
    }

    static void due(String call, boolean got, boolean want) {
        if (got != want) {
            wrong++;
            System.out.println(call + " answered " + got + ", due is " + want);
        }
    }

    static void due(String call, String got, String want) {
        if (!got.equals(want)) {
            wrong++;
            System.out.println(call + " answered " + got + ", due is " + want);
        }
    }

    static void badArgument(String call, Runnable body) {
        due(call, thrownBy(body), "IllegalArgumentException");
    }

    static void badState(String call, Runnable body) {
        due(call, thrownBy(body), "IllegalStateException");
    }

    static String thrownBy(Runnable body) {
        try {
            body.run();
        } catch (RuntimeException e) {
            return e.getClass().getSimpleName();
        }
        return "nothing";
    }

    /** Adds an entry with a rectangle of its own: its number. */
    static int put(RangeReaders x, int owner, int sheet, int top, int left, int bottom, int right) {
        due("rectangle for an entry", x.rectangle(sheet, top, left, bottom, right), true);
        return x.add(owner);
    }

    static String area(RangeReaders x, int n) {
        if (x.entry(n, 0) == RangeReaders.NONE) {
            return "none";
        }
        return x.entry(n, 0) + ": " + x.entry(n, 1) + "," + x.entry(n, 2) + " .. "
                + x.entry(n, 3) + "," + x.entry(n, 4);
    }

    static String met(RangeReaders x) {
        StringBuilder all = new StringBuilder();
        for (int k = 0; x.met(k) != RangeReaders.NONE; k++) {
            all.append(k == 0 ? "" : " ").append(x.met(k));
        }
        return all.toString();
    }

    static void end() {
        if (wrong != 0) {
            System.out.println(wrong + " answers are not as due");
            System.exit(1);
        }
    }
}
