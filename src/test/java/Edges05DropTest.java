/** Promise 5: owners of none, of all, and owners that can't be. */
public final class Edges05DropTest {
    public static void main(String[] args) {
        ofNone();
        ofAll();
        leastAndGreatest();
        Check.end();
    }

    private static void ofNone() {
        Check.sentence("All entries of an owner go: how many");
        RangeReaders x = new RangeReaders();
        Check.put(x, 0, 0, 1, 1, 1, 1);
        Check.put(x, 0, 0, 1, 1, 1, 1);
        x.remove(0);
        String before = Check.state(x);
        for (int owner : new int[] {Integer.MIN_VALUE, -1, 1, 16383, 16384, Integer.MAX_VALUE}) {
            Check.due("drop(" + owner + ")", x.drop(owner), 0);
        }
        Check.due("the state", Check.state(x), before);
    }

    private static void ofAll() {
        Check.sentence("All entries of an owner go: how many");
        RangeReaders x = new RangeReaders();
        for (int n = 0; n < 33; n++) {
            Check.put(x, 5, n % 8, 1, 1, 1, 1);
        }
        Check.due("drop(5)", x.drop(5), 33);
        Check.due("count()", x.count(), 0);
        Check.due("drop(5) when they went", x.drop(5), 0);
    }

    private static void leastAndGreatest() {
        Check.sentence("All entries of an owner go: how many");
        RangeReaders x = new RangeReaders();
        Check.put(x, 0, 0, 1, 1, 1, 1);
        Check.put(x, 16383, 0, 1, 1, 1, 1);
        Check.put(x, 0, 0, 1, 1, 1, 1);
        Check.due("drop(16383)", x.drop(16383), 1);
        Check.due("drop(0)", x.drop(0), 2);
        Check.due("count()", x.count(), 0);
    }
}
