/** add gives the lowest free number, and refuses wrong owners and too many entries. */
public final class Promise03AddTest {
    public static void main(String[] args) {
        withoutRectangle();
        owners();
        lowestFreeNumber();
        hundreds();
        limit();
        Check.end();
    }

    private static void withoutRectangle() {
        RangeReaders x = new RangeReaders();
        Check.badArgument("add(0) without a rectangle", () -> x.add(0));
        Check.badArgument("add(-1) without a rectangle", () -> x.add(-1));
        x.rectangle(0, 2, 2, 1, 1);
        Check.badArgument("add(0) after a refused rectangle", () -> x.add(0));
        Check.due("count()", x.count(), 0);
    }

    private static void owners() {
        RangeReaders x = new RangeReaders();
        x.rectangle(0, 1, 1, 1, 1);
        for (int owner : new int[] {Integer.MIN_VALUE, -1, 16384, Integer.MAX_VALUE}) {
            Check.badArgument("add(" + owner + ")", () -> x.add(owner));
        }
        Check.due("count()", x.count(), 0);
        Check.due("add(0)", x.add(0), 0);
        Check.due("add(16383)", x.add(16383), 1);
        Check.due("entry(0, 5)", x.entry(0, 5), 0);
        Check.due("entry(1, 5)", x.entry(1, 5), 16383);
    }

    private static void lowestFreeNumber() {
        RangeReaders x = new RangeReaders();
        x.rectangle(0, 1, 1, 1, 1);
        for (int i = 0; i < 6; i++) {
            Check.due("add(3)", x.add(3), i);
        }
        x.remove(4);
        x.remove(1);
        x.remove(2);
        Check.due("the first that is free", x.add(3), 1);
        Check.due("the second that is free", x.add(3), 2);
        Check.due("the third that is free", x.add(3), 4);
        Check.due("a new one", x.add(3), 6);
        x.drop(3);
        Check.due("after a drop", x.add(3), 0);
    }

    private static void hundreds() {
        RangeReaders x = new RangeReaders();
        for (int i = 0; i < 200; i++) {
            Check.due("add", Check.put(x, i, i % 8, i + 1, i + 2, i + 3, i + 4), i);
        }
        for (int i = 0; i < 200; i++) {
            String want = i % 8 + ": " + (i + 1) + "," + (i + 2) + " .. " + (i + 3) + "," + (i + 4);
            Check.due("entry " + i, Check.area(x, i), want);
            Check.due("owner of " + i, x.entry(i, 5), i);
        }
    }

    /** Beyond the 512 calls that the document promises, but it names this limit. */
    private static void limit() {
        RangeReaders x = new RangeReaders();
        x.rectangle(0, 1, 1, 1, 1);
        int last = RangeReaders.NONE;
        for (int i = 0; i < 32768; i++) {
            last = x.add(i % 16384);
        }
        Check.due("the last number", last, 32767);
        Check.badState("add(0) when 32768 are there", () -> x.add(0));
        Check.badArgument("add(16384) when 32768 are there", () -> x.add(16384));
        Check.due("count()", x.count(), 32768);
        Check.due("meet()", x.meet(), 32768);
        Check.due("met(32767)", x.met(32767), 32767);
        Check.due("met(32768)", x.met(32768), RangeReaders.NONE);
        Check.due("remove(20000)", x.remove(20000), true);
        Check.due("add(5) after a remove", x.add(5), 20000);
        Check.badState("add(0) when they are there again", () -> x.add(0));
    }
}
