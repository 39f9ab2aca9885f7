import java.lang.reflect.Constructor;
import java.lang.reflect.Field;
import java.lang.reflect.Method;
import java.lang.reflect.Modifier;
import java.util.Set;
import java.util.TreeSet;
import java.util.stream.Collectors;
import java.util.stream.Stream;

/** The public face, member for member, and that nothing else can be seen from outside. */
public final class FaceTest {
    private static final String IAE = "IllegalArgumentException";
    private static final String NSE = "NoSuchElementException";
    private static final String IOOBE = "IndexOutOfBoundsException";
    private static final String UOE = "UnsupportedOperationException";

    private static final Set<String> METHODS = Set.of(
            "int put(int, int, int, int, long) " + IAE + " " + NSE + " " + IOOBE,
            "int insert(int, int, int, int, long) " + IAE + " " + NSE + " " + IOOBE,
            "int set(int, int, int, int, long) " + IAE + " " + NSE + " " + IOOBE,
            "int drop(int, int, int) " + IAE + " " + NSE + " " + IOOBE,
            "int add(int, int, int, long) " + IAE + " " + NSE + " " + IOOBE + " " + UOE,
            "int sync(int, int) " + IAE,
            "int give(int, int) " + IAE + " " + IOOBE,
            "int size(int, int) " + IAE + " " + NSE,
            "int look(int, int, int, int) " + IAE + " " + NSE + " " + IOOBE,
            "long worth(int, int, int) " + IAE + " " + NSE + " " + IOOBE + " " + UOE,
            "int value(int, int, int, int) " + IAE + " " + NSE + " " + IOOBE,
            "int operation(int, int) " + IAE + " " + IOOBE,
            "boolean same(int, int) " + IAE,
            "int count(int, int) " + IAE);

    private static int wrong = 0;

    public static void main(String[] args) {
        due("modifiers", "public final", Modifier.toString(WeaveDesk.class.getModifiers()));
        due("constants", "0 1 2", WeaveDesk.NUMBER + " " + WeaveDesk.MAP + " " + WeaveDesk.LIST);
        due("methods", new TreeSet<>(METHODS).toString(), seenMethods().toString());
        due("fields", "[LIST, MAP, NUMBER]", seenFields().toString());
        due("constructors", "[public WeaveDesk()]", Stream.of(WeaveDesk.class.getDeclaredConstructors())
                .map(Constructor::toString).toList().toString());
        for (Class<?> inside : WeaveDesk.class.getDeclaredClasses()) {
            int modifiers = inside.getModifiers();
            due(inside.getName() + " is static", "true", "" + Modifier.isStatic(modifiers));
            due(inside.getName() + " is not seen", "false",
                    "" + (Modifier.isPublic(modifiers) || Modifier.isProtected(modifiers)));
        }
        System.out.println(wrong + " members not as due");
        if (wrong != 0) {
            System.exit(1);
        }
    }

    private static Set<String> seenMethods() {
        Set<String> seen = new TreeSet<>();
        for (Method method : WeaveDesk.class.getDeclaredMethods()) {
            if (!Modifier.isPrivate(method.getModifiers())) {
                due(method.getName() + "'s modifiers", "public", Modifier.toString(method.getModifiers()));
                seen.add(method.getReturnType() + " " + method.getName() + "("
                        + names(method.getParameterTypes(), ", ") + ") " + names(method.getExceptionTypes(), " "));
            }
        }
        return seen;
    }

    private static Set<String> seenFields() {
        Set<String> seen = new TreeSet<>();
        for (Field field : WeaveDesk.class.getDeclaredFields()) {
            if (!Modifier.isPrivate(field.getModifiers())) {
                due(field.getName() + "'s modifiers", "public static final", Modifier.toString(field.getModifiers()));
                due(field.getName() + "'s type", "int", field.getType().toString());
                seen.add(field.getName());
            }
        }
        return seen;
    }

    private static String names(Class<?>[] types, String between) {
        return Stream.of(types).map(Class::getSimpleName).collect(Collectors.joining(between));
    }

    private static void due(String what, String due, String seen) {
        if (!due.equals(seen)) {
            wrong++;
            System.out.println(what + ": due is " + due + ", but seen " + seen);
        }
    }
}
