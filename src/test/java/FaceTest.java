import java.lang.reflect.Constructor;
import java.lang.reflect.Field;
import java.lang.reflect.Method;
import java.lang.reflect.Modifier;
import java.util.Arrays;
import java.util.Set;
import java.util.TreeSet;
import java.util.stream.Collectors;

/** The public face is that of the document, to the letter, and nothing else can be seen. */
public final class FaceTest {
    private static final String INDEX = "IndexOutOfBoundsException";
    private static final String ARGUMENT = "IllegalArgumentException";
    private static final String STATE = "IllegalStateException";
    private static final String MISSING = "NoSuchElementException";

    private static final Set<String> FACE = new TreeSet<>(Set.of(
        "int begin(int, int) " + ARGUMENT,
        "int put(int, int, boolean) " + INDEX + ", " + ARGUMENT,
        "int add(int, int) " + STATE + ", " + INDEX + ", " + ARGUMENT,
        "boolean valid() ",
        "int clash() ",
        "int balls() " + STATE,
        "int state(int) " + STATE + ", " + INDEX,
        "boolean swap(int, int) " + STATE + ", " + INDEX,
        "int canonical() " + STATE,
        "int height(int, int) " + INDEX,
        "boolean save(int) " + INDEX,
        "int load(int) " + INDEX + ", " + MISSING,
        "int join(int, int) " + INDEX + ", " + MISSING + ", " + ARGUMENT,
        "int joinThrow(int) " + INDEX,
        "int joinAt(int) " + INDEX,
        "int countValid(int, int) " + ARGUMENT,
        "int cycle(int, int) " + ARGUMENT + ", " + MISSING,
        "int show() " + STATE,
        "int run(int) " + ARGUMENT + ", " + STATE,
        "int ball(int) " + INDEX,
        "int hand(int) " + INDEX,
        "int highest() ",
        "int floor(int) " + INDEX + ", " + STATE));

    public static void main(String[] args) {
        Class<?> studio = SiteswapStudio.class;
        if (studio.getModifiers() != (Modifier.PUBLIC | Modifier.FINAL)) {
            Check.report("the class is not public and final");
        }
        methods(studio);
        fields(studio);
        constructors(studio);
        Check.due("NONE", SiteswapStudio.NONE, -1);
        Check.end();
    }

    private static void methods(Class<?> studio) {
        Set<String> names = new TreeSet<>();
        Set<String> open = new TreeSet<>();
        for (Method method : studio.getDeclaredMethods()) {
            if (!Modifier.isPrivate(method.getModifiers())) {
                open.add(written(method));
                names.add(method.getName());
            }
        }
        if (!open.equals(FACE)) {
            Check.report("the face is " + open + ", due is " + FACE);
        }
        for (Method method : studio.getDeclaredMethods()) {
            if (Modifier.isPrivate(method.getModifiers()) && names.contains(method.getName())) {
                Check.report("a private method bears a public name: " + method.getName());
            }
        }
    }

    private static String written(Method method) {
        return method.getReturnType().getSimpleName() + " " + method.getName() + "("
            + listed(method.getParameterTypes()) + ") " + listed(method.getExceptionTypes());
    }

    private static String listed(Class<?>[] types) {
        return Arrays.stream(types).map(Class::getSimpleName).collect(Collectors.joining(", "));
    }

    private static void fields(Class<?> studio) {
        for (Field field : studio.getDeclaredFields()) {
            if (!Modifier.isPrivate(field.getModifiers()) && !field.getName().equals("NONE")) {
                Check.report("a field can be seen: " + field.getName());
            }
        }
    }

    private static void constructors(Class<?> studio) {
        Constructor<?>[] all = studio.getDeclaredConstructors();
        Check.due("constructors", all.length, 1);
        Check.due("its parameters", all[0].getParameterCount(), 0);
    }
}
