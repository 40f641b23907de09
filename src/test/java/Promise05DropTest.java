/** drop lets all entries of an owner go. */
public final class Promise05DropTest {
    public static void main(String[] args) {
        RangeReaders x = new RangeReaders();
        int[] owners = {7, 0, 7, 16383, 7, 0};
        for (int i = 0; i < owners.length; i++) {
            Check.put(x, owners[i], i, 1, 1, 5, 5);
        }
        for (int owner : new int[] {Integer.MIN_VALUE, -1, 8, 16384, Integer.MAX_VALUE}) {
            Check.due("drop(" + owner + ")", x.drop(owner), 0);
        }
        Check.due("count()", x.count(), 6);
        Check.due("drop(7)", x.drop(7), 3);
        Check.due("drop(7) again", x.drop(7), 0);
        Check.due("count()", x.count(), 3);
        for (int i = 0; i < owners.length; i++) {
            int want = owners[i] == 7 ? RangeReaders.NONE : owners[i];
            Check.due("entry(" + i + ", 5)", x.entry(i, 5), want);
        }
        Check.due("drop(-1) with free numbers", x.drop(-1), 0);
        Check.due("drop(0)", x.drop(0), 2);
        Check.due("drop(16383)", x.drop(16383), 1);
        Check.due("count()", x.count(), 0);
        Check.end();
    }
}
