import java.lang.reflect.Constructor;
import java.lang.reflect.Field;
import java.lang.reflect.Method;
import java.lang.reflect.Modifier;
import java.util.Arrays;
import java.util.List;
import java.util.stream.Collectors;

/** The class has the members of the document's face; all others are private, and none of them has such a name. */
public final class FaceTest {
    private static final String INDEX = "IndexOutOfBoundsException";
    private static final String ARGUMENT = "IllegalArgumentException";
    private static final String STATE = "IllegalStateException";

    private static final List<String> METHODS = List.of(
            "area()", "became(int)", "count(int)", "cut(int) " + INDEX, "differing()",
            "edge(int, int) " + INDEX,
            "join(int, int, int, int) " + INDEX + " " + ARGUMENT + " " + STATE,
            "letter(int, int) " + INDEX,
            "meet(int, int, int) " + INDEX,
            "mutate(int, int, int) " + INDEX + " " + ARGUMENT,
            "node(int, boolean) " + ARGUMENT + " " + STATE,
            "parent(int, int) " + INDEX,
            "part(int, int, int) " + INDEX,
            "simplify()",
            "site(int, int) " + INDEX + " " + ARGUMENT + " " + STATE,
            "spectrum(int)", "time(int) " + INDEX, "trees()");

    private FaceTest() {
    }

    public static void main(String[] args) {
        Class<?> face = LineageTables.class;
        Check.same("public and final", face.getModifiers(), Modifier.PUBLIC | Modifier.FINAL);
        List<String> methods = Arrays.stream(face.getDeclaredMethods())
                .filter(m -> !Modifier.isPrivate(m.getModifiers())).map(FaceTest::written).sorted()
                .collect(Collectors.toList());
        Check.same("methods", methods, METHODS);
        List<String> fields = Arrays.stream(face.getDeclaredFields())
                .filter(f -> !Modifier.isPrivate(f.getModifiers())).map(Field::toString)
                .collect(Collectors.toList());
        Check.same("fields", fields, List.of("public static final int LineageTables.NONE"));
        List<String> constructors = Arrays.stream(face.getDeclaredConstructors())
                .map(Constructor::toString).collect(Collectors.toList());
        Check.same("constructors", constructors, List.of("public LineageTables()"));
        Check.same("NONE", LineageTables.NONE, -1);
        Check.same("private methods with a name of the face", privateNames(face).stream()
                .filter(name -> METHODS.stream().anyMatch(m -> m.startsWith(name + "("))).count(), 0L);
        Check.end();
    }

    private static List<String> privateNames(Class<?> face) {
        return Arrays.stream(face.getDeclaredMethods()).filter(m -> Modifier.isPrivate(m.getModifiers()))
                .map(Method::getName).collect(Collectors.toList());
    }

    private static String written(Method m) {
        String thrown = Arrays.stream(m.getExceptionTypes()).map(Class::getSimpleName)
                .collect(Collectors.joining(" "));
        String parameters = Arrays.stream(m.getParameterTypes()).map(Class::toString)
                .collect(Collectors.joining(", "));
        boolean isPlain = m.getModifiers() == Modifier.PUBLIC && m.getReturnType() == int.class;
        return ((isPlain ? "" : "not plain: ") + m.getName() + "(" + parameters + ") " + thrown).trim();
    }
}
