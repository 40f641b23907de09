import java.lang.reflect.Constructor;
import java.lang.reflect.Field;
import java.lang.reflect.Method;
import java.lang.reflect.Modifier;
import java.util.TreeSet;

/** The class shows what the document's face has, and nothing else. */
public final class FaceTest {
    public static void main(String[] args) {
        Class<?> face = RangeReaders.class;
        Check.due("the class is public", Modifier.isPublic(face.getModifiers()), true);
        Check.due("the class is final", Modifier.isFinal(face.getModifiers()), true);
        Check.due("NONE", RangeReaders.NONE, -1);
        Check.due("the methods", methods(face), String.join("; ", new TreeSet<>(java.util.List.of(
                "boolean rectangle(int,int,int,int,int)",
                "int add(int) IllegalArgumentException IllegalStateException",
                "boolean remove(int)",
                "int drop(int)",
                "int readers(int,int,int) IllegalArgumentException",
                "int meet() IllegalStateException",
                "int met(int)",
                "int entry(int,int)",
                "int count()",
                "int insert(int,boolean,int,int) IllegalArgumentException",
                "int delete(int,boolean,int,int) IllegalArgumentException",
                "int move(int,int,int) IllegalArgumentException IllegalStateException"))));
        Check.due("the constructors", constructors(face), "public RangeReaders()");
        Check.due("the fields", fields(face), "public static final int RangeReaders.NONE");
        Check.due("static state", staticState(face), "");
        Check.due("private methods with a public one's name", hiddenNamesakes(face), "");
        Check.due("classes inside that are open to others or not static", openClasses(face), "");
        Check.end();
    }

    private static String methods(Class<?> face) {
        TreeSet<String> all = new TreeSet<>();
        for (Method m : face.getDeclaredMethods()) {
            if (Modifier.isPrivate(m.getModifiers())) {
                continue;
            }
            StringBuilder text = new StringBuilder();
            text.append(Modifier.isPublic(m.getModifiers()) ? "" : "not public: ");
            text.append(m.getReturnType().getSimpleName()).append(' ').append(m.getName()).append('(');
            for (int i = 0; i < m.getParameterCount(); i++) {
                text.append(i == 0 ? "" : ",").append(m.getParameterTypes()[i].getSimpleName());
            }
            text.append(')');
            for (Class<?> e : m.getExceptionTypes()) {
                text.append(' ').append(e.getSimpleName());
            }
            all.add(text.toString());
        }
        return String.join("; ", all);
    }

    private static String constructors(Class<?> face) {
        TreeSet<String> all = new TreeSet<>();
        for (Constructor<?> c : face.getDeclaredConstructors()) {
            all.add(c.toString());
        }
        return String.join("; ", all);
    }

    private static String fields(Class<?> face) {
        TreeSet<String> all = new TreeSet<>();
        for (Field f : face.getDeclaredFields()) {
            if (!Modifier.isPrivate(f.getModifiers())) {
                all.add(f.toString());
            }
        }
        return String.join("; ", all);
    }

    private static String staticState(Class<?> face) {
        TreeSet<String> all = new TreeSet<>();
        for (Field f : face.getDeclaredFields()) {
            if (Modifier.isStatic(f.getModifiers()) && !Modifier.isFinal(f.getModifiers())) {
                all.add(f.toString());
            }
        }
        return String.join("; ", all);
    }

    private static String hiddenNamesakes(Class<?> face) {
        TreeSet<String> shown = new TreeSet<>();
        TreeSet<String> hidden = new TreeSet<>();
        for (Method m : face.getDeclaredMethods()) {
            (Modifier.isPublic(m.getModifiers()) ? shown : hidden).add(m.getName());
        }
        hidden.retainAll(shown);
        return String.join("; ", hidden);
    }

    private static String openClasses(Class<?> face) {
        TreeSet<String> all = new TreeSet<>();
        for (Class<?> inside : face.getDeclaredClasses()) {
            int is = inside.getModifiers();
            if (Modifier.isPublic(is) || Modifier.isProtected(is) || !Modifier.isStatic(is)) {
                all.add(inside.getSimpleName());
            }
        }
        return String.join("; ", all);
    }
}
