/** Promise 8: before the first and behind the last, and entries that change after they were met. */
public final class Edges08MetTest {
    public static void main(String[] args) {
        noneIfThereIsNone();
        asManyAsThereAre();
        staysMetWhateverBecomesOfIt();
        staysMetWhenItsNumberIsGivenAgain();
        refusedQuestionsMeetNothing();
        Check.end();
    }

    private static RangeReaders five() {
        RangeReaders x = new RangeReaders();
        for (int n = 0; n < 5; n++) {
            Check.put(x, n, 0, 1, 1, n + 1, 1);
        }
        x.readers(0, 4, 1);
        return x;
    }

    private static void noneIfThereIsNone() {
        Check.sentence("NONE if there is none");
        RangeReaders x = five();
        Check.due("met(0)", x.met(0), 3);
        Check.due("met(1)", x.met(1), 4);
        for (int k : new int[] {Integer.MIN_VALUE, -1, 2, 3, 15, 16, 32768, Integer.MAX_VALUE}) {
            Check.due("met(" + k + ")", x.met(k), RangeReaders.NONE);
        }
    }

    /** Around the sizes at which the rows inside may be made longer. */
    private static void asManyAsThereAre() {
        Check.sentence("The k-th entry that was met");
        RangeReaders x = new RangeReaders();
        x.rectangle(0, 1, 1, 1, 1);
        for (int there = 1; there <= 130; there++) {
            x.add(0);
            Check.due("meet()", x.meet(), there);
            Check.due("the first of " + there, x.met(0), 0);
            Check.due("the last of " + there, x.met(there - 1), there - 1);
            Check.due("behind the last of " + there, x.met(there), RangeReaders.NONE);
        }
    }

    private static void staysMetWhateverBecomesOfIt() {
        Check.sentence("It stays met, whatever becomes of it");
        RangeReaders x = five();
        x.rectangle(0, 1, 1, 9, 9);
        x.move(1, 1, 1);
        Check.due("met after move", Check.met(x), "3 4");
        x.insert(1, false, 1, 1);
        Check.due("met after insert", Check.met(x), "3 4");
        x.remove(3);
        Check.due("met after remove", Check.met(x), "3 4");
        x.drop(4);
        Check.due("met after drop", Check.met(x), "3 4");
        x.delete(1, true, 1, 1);
        Check.due("met after delete", Check.met(x), "3 4");
        Check.due("count()", x.count(), 0);
    }

    private static void staysMetWhenItsNumberIsGivenAgain() {
        Check.sentence("It stays met, whatever becomes of it");
        RangeReaders x = five();
        x.remove(3);
        x.rectangle(7, 9, 9, 9, 9);
        Check.due("add(8)", x.add(8), 3);
        Check.due("met", Check.met(x), "3 4");
        Check.due("readers again", x.readers(0, 4, 1), 1);
        Check.due("met", Check.met(x), "4");
    }

    private static void refusedQuestionsMeetNothing() {
        Check.sentence("The k-th entry that was met");
        RangeReaders x = five();
        Check.badArgument(x, "readers(0, 0, 1)", () -> x.readers(0, 0, 1));
        Check.due("met", Check.met(x), "3 4");
    }
}
