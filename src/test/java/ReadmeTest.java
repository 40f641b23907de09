import java.io.IOException;
import java.lang.reflect.Method;
import java.lang.reflect.Modifier;
import java.nio.file.Files;
import java.nio.file.Path;

/** What README.md says of the class holds, and it leaves no call out. */
public final class ReadmeTest {
    public static void main(String[] args) throws IOException {
        namesEveryCall(Files.readString(Path.of("README.md")));
        theExample();
        Check.end();
    }

    private static void namesEveryCall(String readme) {
        for (Method m : RangeReaders.class.getDeclaredMethods()) {
            if (Modifier.isPublic(m.getModifiers())) {
                Check.due("README.md on " + m.getName(), readme.contains("| `" + m.getName() + "("), true);
            }
        }
        Check.due("README.md on .ci/run", readme.contains(".ci/run"), true);
    }

    /** The example's calls in their order, with the answers that stand beside them there. */
    private static void theExample() {
        RangeReaders x = new RangeReaders();
        Check.due("rectangle", x.rectangle(0, 2, 2, 5, 3), true);
        Check.due("add", x.add(7), 0);
        Check.due("readers", x.readers(0, 4, 3), 1);
        Check.due("met(0)", x.met(0), 0);
        Check.due("met(1)", x.met(1), RangeReaders.NONE);
        Check.due("insert", x.insert(0, false, 4, 2), 1);
        Check.due("entry", x.entry(0, 3), 7);
        Check.due("rectangle", x.rectangle(0, 1, 1, 9, 9), true);
        Check.due("meet", x.meet(), 1);
        Check.due("move", x.move(1, 11, 1), 1);
        Check.due("where it is now", Check.area(x, 0), "1: 12,2 .. 17,3");
        Check.due("delete", x.delete(1, true, 1, 2), 1);
        Check.due("where it is then", Check.area(x, 0), "1: 12,1 .. 17,1");
        Check.due("drop", x.drop(7), 1);
        Check.due("count", x.count(), 0);
    }
}
