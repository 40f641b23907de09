/** met tells what the last question found, until the next one. */
public final class Promise08MetTest {
    public static void main(String[] args) {
        RangeReaders x = new RangeReaders();
        for (int i = 0; i < 5; i++) {
            Check.put(x, i, 0, 1, 1, i + 1, 1);
        }
        Check.due("readers(0, 3, 1)", x.readers(0, 3, 1), 3);
        stillMet(x, "readers");
        x.remove(3);
        stillMet(x, "remove");
        x.drop(4);
        stillMet(x, "drop");
        x.insert(0, false, 1, 16384);
        stillMet(x, "insert");
        x.delete(0, true, 1, 1);
        stillMet(x, "delete");
        Check.due("count()", x.count(), 0);
        for (int i = 0; i < 40; i++) {
            Check.put(x, 7, 1, 1, 1, 1, 1);
        }
        stillMet(x, "add");
        x.move(2, 5, 5);
        stillMet(x, "move");
        for (int k : new int[] {Integer.MIN_VALUE, -1, 3, 4, 15, 16, 511, 512, Integer.MAX_VALUE}) {
            Check.due("met(" + k + ")", x.met(k), RangeReaders.NONE);
        }
        Check.badArgument("readers(0, 0, 1)", () -> x.readers(0, 0, 1));
        stillMet(x, "a question that failed");
        Check.due("readers(2, 5, 5)", x.readers(2, 5, 5), 40);
        Check.due("met(39)", x.met(39), 39);
        x.rectangle(3, 1, 1, 1, 1);
        Check.due("meet()", x.meet(), 0);
        Check.due("met(0)", x.met(0), RangeReaders.NONE);
        Check.end();
    }

    private static void stillMet(RangeReaders x, String what) {
        Check.due("met after " + what, Check.met(x), "2 3 4");
    }
}
