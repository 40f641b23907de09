/** A new object has no entries, and nothing is met. */
public final class Promise01NewObjectTest {
    public static void main(String[] args) {
        RangeReaders x = new RangeReaders();
        Check.due("count()", x.count(), 0);
        for (int i : new int[] {Integer.MIN_VALUE, -1, 0, 1, 15, 16, 511, 32767, 32768, Integer.MAX_VALUE}) {
            Check.due("met(" + i + ")", x.met(i), RangeReaders.NONE);
            Check.due("entry(" + i + ", 0)", x.entry(i, 0), RangeReaders.NONE);
            Check.due("remove(" + i + ")", x.remove(i), false);
            Check.due("drop(" + i + ")", x.drop(i), 0);
        }
        Check.due("readers(0, 1, 1)", x.readers(0, 1, 1), 0);
        Check.due("insert(0, false, 1, 1)", x.insert(0, false, 1, 1), 0);
        Check.due("delete(0, true, 1, 1)", x.delete(0, true, 1, 1), 0);
        twoObjectsAreApart();
        Check.end();
    }

    private static void twoObjectsAreApart() {
        RangeReaders x = new RangeReaders();
        Check.put(x, 1, 0, 1, 1, 1, 1);
        x.meet();
        RangeReaders y = new RangeReaders();
        Check.due("count() of another", y.count(), 0);
        Check.due("met(0) of another", y.met(0), RangeReaders.NONE);
        Check.badState("meet() of another", () -> y.meet());
    }
}
