/** Promise 4: entries that are not there. */
public final class Edges04RemoveTest {
    public static void main(String[] args) {
        falseIfThereIsNone();
        falseOnceItWent();
        firstAndLast();
        Check.end();
    }

    private static RangeReaders three() {
        RangeReaders x = new RangeReaders();
        for (int n = 0; n < 3; n++) {
            Check.put(x, n, 0, n + 1, 1, n + 1, 1);
        }
        return x;
    }

    private static void falseIfThereIsNone() {
        Check.sentence("false if there is none");
        RangeReaders x = three();
        String before = Check.state(x);
        for (int n : new int[] {Integer.MIN_VALUE, -1, 3, 15, 16, 17, 32767, 32768, Integer.MAX_VALUE}) {
            Check.due("remove(" + n + ")", x.remove(n), false);
        }
        Check.due("the state", Check.state(x), before);
    }

    private static void falseOnceItWent() {
        Check.sentence("false if there is none");
        RangeReaders x = three();
        x.remove(0);
        Check.due("remove(0) twice", x.remove(0), false);
        x.drop(1);
        Check.due("remove(1) after drop", x.remove(1), false);
        x.delete(0, false, 3, 1);
        Check.due("remove(2) after delete", x.remove(2), false);
        Check.due("count()", x.count(), 0);
        x.add(9);
        Check.due("remove(0) of a new one", x.remove(0), true);
    }

    private static void firstAndLast() {
        Check.sentence("An entry goes");
        RangeReaders x = three();
        Check.due("remove(2)", x.remove(2), true);
        Check.due("remove(0)", x.remove(0), true);
        Check.due("count()", x.count(), 1);
        Check.due("readers of its cell", x.readers(0, 1, 1), 0);
        Check.due("the one between", Check.area(x, 1), "0: 2,1 .. 2,1");
    }
}
