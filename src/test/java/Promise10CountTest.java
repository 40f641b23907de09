/** count follows every way in which an entry comes or goes. */
public final class Promise10CountTest {
    public static void main(String[] args) {
        RangeReaders x = new RangeReaders();
        counted(x, "new", 0);
        for (int i = 0; i < 50; i++) {
            Check.put(x, i % 5, 0, i + 1, 1, i + 1, 1);
            counted(x, "add", i + 1);
        }
        Check.badArgument("add(-1)", () -> x.add(-1));
        counted(x, "an add that failed", 50);
        x.remove(0);
        counted(x, "remove", 49);
        x.remove(0);
        counted(x, "a remove of nothing", 49);
        x.drop(4);
        counted(x, "drop", 39);
        x.delete(0, false, 2, 3);
        counted(x, "delete", 36);
        x.move(0, 3, 1);
        counted(x, "move", 35);
        Check.put(x, 1, 0, Check.LAST_ROW, 1, Check.LAST_ROW, 1);
        counted(x, "add", 36);
        x.insert(0, false, Check.LAST_ROW, 1);
        counted(x, "insert", 35);
        Check.end();
    }

    private static void counted(RangeReaders x, String what, int want) {
        Check.due("count() after " + what, x.count(), want);
    }
}
