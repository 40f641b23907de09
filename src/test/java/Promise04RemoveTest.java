/** remove lets one entry go. */
public final class Promise04RemoveTest {
    public static void main(String[] args) {
        RangeReaders x = new RangeReaders();
        for (int i = 0; i < 3; i++) {
            Check.put(x, 9, 0, 1, 1, 5, 5);
        }
        Check.due("remove(1)", x.remove(1), true);
        Check.due("remove(1) again", x.remove(1), false);
        Check.due("count()", x.count(), 2);
        Check.due("entry 1", Check.area(x, 1), "none");
        Check.due("entry(1, 5)", x.entry(1, 5), RangeReaders.NONE);
        Check.due("entry 0", Check.area(x, 0), "0: 1,1 .. 5,5");
        Check.due("entry 2", Check.area(x, 2), "0: 1,1 .. 5,5");
        Check.due("readers(0, 1, 1)", x.readers(0, 1, 1), 2);
        Check.due("met", Check.met(x), "0 2");
        for (int n : new int[] {Integer.MIN_VALUE, -1, 3, 16, 32768, Integer.MAX_VALUE}) {
            Check.due("remove(" + n + ")", x.remove(n), false);
        }
        Check.due("count()", x.count(), 2);
        Check.due("remove(0)", x.remove(0), true);
        Check.due("remove(2)", x.remove(2), true);
        Check.due("count()", x.count(), 0);
        Check.end();
    }
}
