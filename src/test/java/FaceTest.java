import java.lang.reflect.Constructor;
import java.lang.reflect.Field;
import java.lang.reflect.Method;
import java.lang.reflect.Modifier;
import java.util.Arrays;
import java.util.HashSet;
import java.util.Set;
import java.util.TreeSet;
import java.util.stream.Collectors;

/** The class shows the document's face and no other member (LANGUAGE.md, rules 1 and 5). */
public final class FaceTest {
    private static final String ARGUMENT = " throws IllegalArgumentException";
    private static final String INDEX = " throws IndexOutOfBoundsException";
    private static final Answers A = new Answers();

    public static void main(String[] args) {
        Class<?> face = TapeChains.class;
        A.due("the class", Modifier.toString(face.getModifiers()), "public final");
        methods(face);
        constructors(face);
        fields(face);
        A.end();
    }

    private static void methods(Class<?> face) {
        Set<String> open = new TreeSet<>();
        Set<String> openNames = new HashSet<>();
        Set<String> hiddenNames = new HashSet<>();
        for (Method m : face.getDeclaredMethods()) {
            if (Modifier.isPrivate(m.getModifiers()) || m.isSynthetic()) {
                hiddenNames.add(m.getName());
            } else {
                openNames.add(m.getName());
                open.add(Modifier.toString(m.getModifiers()) + " " + m.getReturnType() + " "
                    + m.getName() + list("(", m.getParameterTypes(), ")")
                    + list(" throws ", m.getExceptionTypes(), ""));
            }
        }
        A.due("open methods", open, documentedMethods());
        hiddenNames.retainAll(openNames);
        A.due("private methods that bear a public name", hiddenNames, Set.of());
    }

    private static String list(String before, Class<?>[] types, String after) {
        if (types.length == 0 && after.isEmpty()) {
            return "";
        }
        return Arrays.stream(types).map(Class::getSimpleName)
            .collect(Collectors.joining(", ", before, after));
    }

    private static Set<String> documentedMethods() {
        return new TreeSet<>(Set.of(
            "public void begin(int)" + ARGUMENT,
            "public int dump(int, int)" + ARGUMENT + ", IllegalStateException",
            "public void drop(int)" + ARGUMENT,
            "public int chain(int, int)" + INDEX + ", IllegalArgumentException",
            "public int depth(int)" + INDEX,
            "public int place(int, int)" + INDEX + ", IllegalArgumentException",
            "public int owner(int, int)" + ARGUMENT,
            "public long needs(int)" + INDEX,
            "public boolean lose(int, boolean)" + ARGUMENT,
            "public boolean good(int)" + INDEX,
            "public int latest(int)" + INDEX,
            "public long spare(int)" + ARGUMENT,
            "public int count(int)" + ARGUMENT));
    }

    private static void constructors(Class<?> face) {
        Constructor<?>[] all = face.getDeclaredConstructors();
        A.due("how many constructors", all.length, 1);
        A.due("the constructor", all[0].toString(), "public TapeChains()");
    }

    private static void fields(Class<?> face) {
        for (Field f : face.getDeclaredFields()) {
            int m = f.getModifiers();
            A.due("field " + f.getName() + " is private", Modifier.isPrivate(m), true);
            A.due("field " + f.getName() + " is no static state",
                !Modifier.isStatic(m) || Modifier.isFinal(m), true);
        }
    }
}
