/** Promise 1: an object on which nothing was called but questions. */
public final class Edges01NewObjectTest {
    public static void main(String[] args) {
        noEntries();
        nothingIsMet();
        linesOfNoEntries();
        Check.end();
    }

    private static void noEntries() {
        Check.sentence("No entries");
        RangeReaders x = new RangeReaders();
        Check.due("count()", x.count(), 0);
        Check.due("remove(0)", x.remove(0), false);
        Check.due("drop(0)", x.drop(0), 0);
        for (int what = 0; what <= 5; what++) {
            Check.due("entry(0, " + what + ")", x.entry(0, what), RangeReaders.NONE);
        }
        x.rectangle(0, 1, 1, 1, 1);
        Check.due("the first number", x.add(0), 0);
    }

    private static void nothingIsMet() {
        Check.sentence("nothing is met");
        RangeReaders x = new RangeReaders();
        for (int k = -1; k <= 20; k++) {
            Check.due("met(" + k + ")", x.met(k), RangeReaders.NONE);
        }
        x.rectangle(0, 1, 1, 1, 1);
        x.add(0);
        Check.due("met(0) before any question", x.met(0), RangeReaders.NONE);
    }

    private static void linesOfNoEntries() {
        Check.sentence("No entries");
        RangeReaders x = new RangeReaders();
        Check.due("insert", x.insert(0, false, 1, 16384), 0);
        Check.due("delete", x.delete(0, true, 1, 16384), 0);
        Check.due("readers", x.readers(0, 1, 1), 0);
        x.rectangle(0, 1, 1, 1, 1);
        Check.due("meet", x.meet(), 0);
        Check.due("move", x.move(1, 1, 1), 0);
        Check.due("count()", x.count(), 0);
    }
}
