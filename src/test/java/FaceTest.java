import java.lang.reflect.Constructor;
import java.lang.reflect.Field;
import java.lang.reflect.Method;
import java.lang.reflect.Modifier;
import java.util.ArrayList;
import java.util.List;
import java.util.TreeSet;

/** "The public face": its constructor and methods with the exceptions that it names, and nothing else. */
public final class FaceTest {
    private static final List<String> FACE = List.of(
        "int slab(int, int, int) throws IllegalArgumentException, IllegalStateException",
        "int flaw(int, int, int) throws IndexOutOfBoundsException, IllegalStateException",
        "int kerf(int) throws IllegalArgumentException",
        "int cut(int, boolean, int) throws IndexOutOfBoundsException, IllegalArgumentException, IllegalStateException",
        "int toss(int) throws IndexOutOfBoundsException, IllegalStateException",
        "int ofSlab(int, int) throws IndexOutOfBoundsException, IllegalArgumentException",
        "int flawsAt(int, int, int) throws IndexOutOfBoundsException",
        "int root(int) throws IndexOutOfBoundsException",
        "int kind(int, int, int) throws IllegalArgumentException, IllegalStateException",
        "int let(int, int, int) throws IndexOutOfBoundsException, IllegalArgumentException",
        "int order(int, int) throws IndexOutOfBoundsException, IllegalArgumentException",
        "int ofKind(int, int) throws IndexOutOfBoundsException, IllegalArgumentException",
        "int fits(int, int) throws IndexOutOfBoundsException",
        "int take(int, int) throws IndexOutOfBoundsException, IllegalStateException",
        "int plan(int) throws IllegalArgumentException",
        "int many(int) throws IllegalArgumentException",
        "double meanArea()",
        "int worth(int, int, int) throws IllegalArgumentException",
        "int bestCut(int, int, int) throws IllegalArgumentException",
        "int column(int, int, int, int) throws IndexOutOfBoundsException, IllegalArgumentException",
        "int worthMore(int, int) throws IndexOutOfBoundsException, IllegalArgumentException",
        "int wasteBy(int, int) throws IndexOutOfBoundsException",
        "int planPays(int) throws IllegalArgumentException",
        "long digest()");

    private static final Class<StonecutterYard> YARD = StonecutterYard.class;
    private static final Due due = new Due();

    public static void main(String[] args) {
        due.is("public final", "what the class is", () -> Modifier.toString(YARD.getModifiers()));
        due.is(Object.class, "what the class extends", () -> YARD.getSuperclass());
        due.is(0, "how many interfaces", () -> YARD.getInterfaces().length);
        due.is(List.of("public ()"), "constructors", () -> constructors());
        due.is(new TreeSet<>(FACE), "methods of the face", () -> methodsOfFace());
        due.is(List.of(), "private methods with a name of the face", () -> hiddenNamesakes());
        due.is(List.of(), "fields that are not private", () -> openFields());
        due.is(List.of(), "inner classes that are open, or not static", () -> openClasses());
        due.end();
    }

    private static List<String> constructors() {
        List<String> all = new ArrayList<>();
        for (Constructor<?> c : YARD.getDeclaredConstructors()) {
            all.add(Modifier.toString(c.getModifiers()) + " (" + names(c.getParameterTypes()) + ")"
                + thrown(c.getExceptionTypes()));
        }
        return all;
    }

    /** All that is not private; what is not plainly public bears that in its row. */
    private static TreeSet<String> methodsOfFace() {
        TreeSet<String> all = new TreeSet<>();
        for (Method m : YARD.getDeclaredMethods()) {
            if (!Modifier.isPrivate(m.getModifiers()) && !m.isSynthetic()) {
                String how = m.getModifiers() == Modifier.PUBLIC ? "" : "[" + Modifier.toString(m.getModifiers()) + "] ";
                all.add(how + m.getReturnType().getSimpleName() + " " + m.getName()
                    + "(" + names(m.getParameterTypes()) + ")" + thrown(m.getExceptionTypes()));
            }
        }
        return all;
    }

    private static List<String> hiddenNamesakes() {
        List<String> all = new ArrayList<>();
        for (Method m : YARD.getDeclaredMethods()) {
            boolean isOfFace = FACE.stream().anyMatch(row -> row.contains(" " + m.getName() + "("));
            if (Modifier.isPrivate(m.getModifiers()) && isOfFace) {
                all.add(m.getName());
            }
        }
        return all;
    }

    private static List<String> openFields() {
        List<String> all = new ArrayList<>();
        for (Field f : YARD.getDeclaredFields()) {
            if (!Modifier.isPrivate(f.getModifiers())) {
                all.add(f.getName());
            }
        }
        return all;
    }

    private static List<String> openClasses() {
        List<String> all = new ArrayList<>();
        for (Class<?> c : YARD.getDeclaredClasses()) {
            int m = c.getModifiers();
            if (Modifier.isPublic(m) || Modifier.isProtected(m) || !Modifier.isStatic(m)) {
                all.add(c.getSimpleName());
            }
        }
        return all;
    }

    private static String names(Class<?>[] types) {
        List<String> all = new ArrayList<>();
        for (Class<?> type : types) {
            all.add(type.getSimpleName());
        }
        return String.join(", ", all);
    }

    private static String thrown(Class<?>[] types) {
        return types.length == 0 ? "" : " throws " + names(types);
    }
}
