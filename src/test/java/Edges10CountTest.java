/** Promise 10: none, all that can be, and none again; calls that are refused don't count. */
public final class Edges10CountTest {
    public static void main(String[] args) {
        empty();
        refusedCalls();
        full();
        Check.end();
    }

    private static void empty() {
        Check.sentence("How many entries there are");
        RangeReaders x = new RangeReaders();
        Check.due("count() at first", x.count(), 0);
        Check.put(x, 0, 0, 1, 1, 1, 1);
        Check.due("count() with one", x.count(), 1);
        x.remove(0);
        Check.due("count() when it went", x.count(), 0);
    }

    private static void refusedCalls() {
        Check.sentence("How many entries there are");
        RangeReaders x = new RangeReaders();
        Check.thrownBy(() -> x.add(0));
        Check.due("count() after an add without a rectangle", x.count(), 0);
        Check.put(x, 0, 0, 1, 1, 1, 1);
        Check.thrownBy(() -> x.add(16384));
        Check.due("count() after an add with a wrong owner", x.count(), 1);
        x.remove(1);
        x.remove(-1);
        x.drop(1);
        Check.due("count() after a remove and a drop of nothing", x.count(), 1);
        Check.thrownBy(() -> x.delete(0, false, 1, 0));
        Check.thrownBy(() -> x.move(0, 0, 1));
        Check.due("count() after a wrong delete and a wrong move", x.count(), 1);
    }

    /** Beyond the 512 calls that are promised, but the document names the limit. */
    private static void full() {
        Check.sentence("How many entries there are");
        RangeReaders x = new RangeReaders();
        x.rectangle(0, 1, 1, 1, 1);
        for (int n = 1; n <= 32768; n++) {
            x.add(7);
            Check.due("count()", x.count(), n);
        }
        Check.thrownBy(() -> x.add(7));
        Check.due("count() after an add without room", x.count(), 32768);
        Check.due("drop(7)", x.drop(7), 32768);
        Check.due("count()", x.count(), 0);
    }
}
