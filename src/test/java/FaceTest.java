import java.lang.reflect.Constructor;
import java.lang.reflect.Field;
import java.lang.reflect.Method;
import java.lang.reflect.Modifier;
import java.util.Arrays;
import java.util.Map;
import java.util.TreeMap;
import java.util.TreeSet;

/** The public face: just the document's constants, constructor and methods. */
final class FaceTest {
    private FaceTest() {
    }

    public static void main(String[] args) throws IllegalAccessException {
        Check.isTrue("public and final",
                Modifier.isPublic(StreamFilters.class.getModifiers())
                        && Modifier.isFinal(StreamFilters.class.getModifiers()));
        constants();
        constructors();
        methods();
        Check.end();
    }

    private static void constants() throws IllegalAccessException {
        String[] names = {"NONE", "ENDS", "OVER", "HEADER", "BLOCK", "STORED", "CODES", "SYMBOL", "FAR", "CHECK",
            "CODE", "RANGE", "SIGN", "TAG"};
        Map<String, Integer> due = new TreeMap<>();
        for (int i = 0; i < names.length; i++) {
            due.put(names[i], i == 0 ? -1 : i);
        }
        Map<String, Integer> got = new TreeMap<>();
        for (Field field : StreamFilters.class.getDeclaredFields()) {
            if (!Modifier.isPrivate(field.getModifiers())) {
                got.put(field.getName(), field.getInt(null));
                Check.same(field.getName() + ": its modifiers", field.getModifiers(),
                        Modifier.PUBLIC | Modifier.STATIC | Modifier.FINAL);
            }
            boolean isFinal = Modifier.isFinal(field.getModifiers());
            Check.isTrue(field.getName() + ": static, so final", !Modifier.isStatic(field.getModifiers()) || isFinal);
        }
        Check.isTrue("constants are " + got, got.equals(due));
    }

    private static void constructors() {
        Constructor<?>[] all = StreamFilters.class.getDeclaredConstructors();
        Check.same("constructors", all.length, 1);
        Check.same("its parameters", all[0].getParameterCount(), 0);
        Check.same("its modifiers", all[0].getModifiers(), Modifier.PUBLIC);
    }

    private static void methods() {
        TreeSet<String> due = new TreeSet<>(Arrays.asList(
                "int feed 5 []",
                "int put 2 [IndexOutOfBoundsException, IllegalArgumentException]",
                "int cut 1 [IllegalArgumentException]",
                "int filter 2 [IllegalArgumentException, IllegalStateException]",
                "void predict 4 [IllegalArgumentException, IllegalStateException]",
                "int drop 0 []",
                "int budget 1 [IllegalArgumentException]",
                "int decode 0 []",
                "int at 1 []",
                "int fault 1 []",
                "int keep 0 [IllegalStateException]"));
        TreeSet<String> got = new TreeSet<>();
        for (Method method : StreamFilters.class.getDeclaredMethods()) {
            if (!Modifier.isPrivate(method.getModifiers())) {
                Check.same(method.getName() + ": its modifiers", method.getModifiers(), Modifier.PUBLIC);
                got.add(method.getReturnType() + " " + method.getName() + " " + method.getParameterCount() + " "
                        + Arrays.toString(Arrays.stream(method.getExceptionTypes()).map(Class::getSimpleName).toArray()));
                for (Class<?> type : method.getParameterTypes()) {
                    Check.isTrue(method.getName() + ": takes numbers", type == int.class);
                }
            }
        }
        Check.isTrue("methods are " + got, got.equals(due));
    }
}
