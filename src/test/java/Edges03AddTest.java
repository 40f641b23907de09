/** Promise 3: adds that are refused. */
public final class Edges03AddTest {
    public static void main(String[] args) {
        noRectangle();
        noSuchOwner();
        thousandsAreThere();
        Check.end();
    }

    private static void noRectangle() {
        Check.sentence("IllegalArgumentException: there is no rectangle");
        RangeReaders x = new RangeReaders();
        Check.badArgument(x, "add(0)", () -> x.add(0));
        Check.badArgument(x, "add(16383)", () -> x.add(16383));
        Check.badArgument(x, "add(16384)", () -> x.add(16384));
        x.rectangle(0, 1, 1, 1, 1);
        Check.due("add(0) with a rectangle", x.add(0), 0);
    }

    private static void noSuchOwner() {
        Check.sentence("IllegalArgumentException: .. or no such owner");
        RangeReaders x = new RangeReaders();
        Check.put(x, 16383, 0, 1, 1, 1, 1);
        x.meet();
        for (int owner : new int[] {Integer.MIN_VALUE, -1, 16384, Integer.MAX_VALUE}) {
            Check.badArgument(x, "add(" + owner + ")", () -> x.add(owner));
        }
        Check.due("the number after the refused ones", x.add(0), 1);
    }

    /** Beyond the 512 calls that are promised, but the document names the limit. */
    private static void thousandsAreThere() {
        Check.sentence("IllegalStateException: 32768 are there");
        RangeReaders x = new RangeReaders();
        x.rectangle(0, 1, 1, 1, 1);
        for (int n = 0; n < 32767; n++) {
            x.add(n % 16384);
        }
        Check.due("the last that has room", x.add(1), 32767);
        Check.badState("add(0)", () -> x.add(0));
        Check.badState("add(16383)", () -> x.add(16383));
        Check.due("count()", x.count(), 32768);
        Check.due("remove(0)", x.remove(0), true);
        Check.due("add(2) when one went", x.add(2), 0);
        Check.badState("add(0) again", () -> x.add(0));
        Check.due("delete of all", x.delete(0, false, 1, 1), 32768);
        Check.due("add(3) when all went", x.add(3), 0);
    }
}
