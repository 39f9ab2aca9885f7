import java.lang.reflect.InvocationTargetException;
import java.lang.reflect.Method;
import java.util.regex.Matcher;
import java.util.regex.Pattern;

/**
 * A run of calls on one new WeaveDesk, told as text: a line is "size(0, -1) -> 3",
 * or "size(6, -1) -> IllegalArgumentException" where the call must throw.
 */
final class Run {
    private static final Pattern LINE = Pattern.compile("(\\w+)\\((.*)\\)\\s*->\\s*(\\S+)");
    private static int calls = 0;
    private static int wrong = 0;

    private final String name;
    private final WeaveDesk desk = new WeaveDesk();

    Run(String name) {
        this.name = name;
    }

    Run then(String lines) {
        for (String line : lines.split("\n")) {
            if (!line.isBlank()) {
                callAndCompare(line.strip());
            }
        }
        return this;
    }

    /** Prints how many calls there were; ends the program with 1 if an answer was not as due. */
    static void end() {
        System.out.println(calls + " calls, " + wrong + " answers not as due");
        if (wrong != 0 || calls == 0) {
            System.exit(1);
        }
    }

    private void callAndCompare(String line) {
        Matcher parts = LINE.matcher(line);
        if (!parts.matches()) {
            throw new IllegalStateException("no call: " + line);
        }
        calls++;
        String got = answer(desk, parts.group(1), parts.group(2).split("\\s*,\\s*"));
        if (!got.equals(parts.group(3))) {
            wrong++;
            System.out.println(name + ": " + line + ", but it answered " + got);
        }
    }

    static String answer(Object target, String method, String[] arguments) {
        for (Method candidate : target.getClass().getDeclaredMethods()) {
            if (candidate.getName().equals(method)) {
                return invoke(target, candidate, arguments);
            }
        }
        throw new IllegalStateException("no method " + method);
    }

    private static String invoke(Object target, Method method, String[] arguments) {
        Class<?>[] types = method.getParameterTypes();
        Object[] values = new Object[types.length];
        for (int i = 0; i < types.length; i++) {
            if (types[i] == long.class) {
                values[i] = Long.valueOf(arguments[i]);
            } else {
                values[i] = Integer.valueOf(arguments[i]);
            }
        }
        try {
            return String.valueOf(method.invoke(target, values));
        } catch (InvocationTargetException e) {
            return e.getCause().getClass().getSimpleName();
        } catch (IllegalAccessException e) {
            throw new IllegalStateException(e);
        }
    }
}
