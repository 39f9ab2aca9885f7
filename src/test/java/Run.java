import java.lang.reflect.InvocationTargetException;
import java.lang.reflect.Method;
import java.util.ArrayList;
import java.util.HashMap;
import java.util.List;
import java.util.Map;
import java.util.regex.Matcher;
import java.util.regex.Pattern;

/**
 * A run of calls on one new WeaveDesk, told as text: a line is "size(0, -1) -> 3",
 * or "size(6, -1) -> IllegalArgumentException" where the call must throw. MIN and MAX stand for the
 * least and the greatest number of the argument's type.
 */
final class Run {
    /** What later calls on one object answer is free. */
    static final int MOST_CALLS = 512;

    private static final Pattern LINE = Pattern.compile("(.*\\))\\s*->\\s*(\\S+)");
    private static final Pattern CALL = Pattern.compile("(\\w+)\\((.*)\\)");
    private static final Map<String, Method> METHODS = new HashMap<>();
    private static int calls = 0;
    private static int wrong = 0;

    private final String name;
    private final WeaveDesk desk = new WeaveDesk();
    private final List<String> told = new ArrayList<>();

    Run(String name) {
        this.name = name;
    }

    Run then(String lines) {
        for (String line : linesOf(lines)) {
            Matcher parts = LINE.matcher(line);
            if (!parts.matches()) {
                throw new IllegalStateException("no call with an answer: " + line);
            }
            callAndCompare(parts.group(1), parts.group(2));
        }
        return this;
    }

    /** The lines once for each number, which stands for #, as the next one and the last one do for #+ and #-. */
    Run each(int from, int to, String lines) {
        for (int i = from; i < to; i++) {
            then(lines.replace("#+", "" + (i + 1)).replace("#-", "" + (i - 1)).replace("#", "" + i));
        }
        return this;
    }

    /** Calls that must throw; all that can be asked behind them is answered as if they had not been. */
    Run refuses(String exception, String callLines) {
        Map<String, String> due = Everything.after(told);
        for (String call : linesOf(callLines)) {
            callAndCompare(call, exception);
        }
        Map<String, String> got = Everything.after(told);
        for (String question : due.keySet()) {
            if (!due.get(question).equals(got.get(question))) {
                wrong++;
                System.out.println(name + ": " + question + " answered " + due.get(question)
                        + ", and behind refused calls " + got.get(question));
            }
        }
        return this;
    }

    /** Prints how many calls there were; ends the program with 1 if an answer was not as due. */
    static void end() {
        System.out.println(calls + " calls, " + wrong + " answers not as due");
        if (wrong != 0 || calls == 0) {
            System.exit(1);
        }
    }

    static List<String> linesOf(String text) {
        return text.lines().map(String::strip).filter(line -> !line.isEmpty()).toList();
    }

    private void callAndCompare(String call, String due) {
        if (told.size() == MOST_CALLS) {
            throw new IllegalStateException(name + ": a call too many");
        }
        calls++;
        told.add(call);
        String got = answer(desk, call);
        if (!got.equals(due)) {
            wrong++;
            System.out.println(name + ": " + call + " -> " + due + ", but it answered " + got);
        }
    }

    static String answer(Object target, String call) {
        Matcher parts = CALL.matcher(call);
        if (!parts.matches()) {
            throw new IllegalStateException("no call: " + call);
        }
        return answer(target, parts.group(1), parts.group(2).split("\\s*,\\s*"));
    }

    static String answer(Object target, String method, String[] arguments) {
        String name = target.getClass().getName() + "." + method;
        return invoke(target, METHODS.computeIfAbsent(name, n -> find(target.getClass(), method)), arguments);
    }

    private static Method find(Class<?> type, String method) {
        for (Method candidate : type.getDeclaredMethods()) {
            if (candidate.getName().equals(method)) {
                return candidate;
            }
        }
        throw new IllegalStateException("no method " + method);
    }

    private static String invoke(Object target, Method method, String[] arguments) {
        Class<?>[] types = method.getParameterTypes();
        if (types.length != arguments.length) {
            throw new IllegalStateException(method + " with " + arguments.length + " arguments");
        }
        Object[] values = new Object[types.length];
        for (int i = 0; i < types.length; i++) {
            values[i] = number(types[i], arguments[i]);
        }
        try {
            return String.valueOf(method.invoke(target, values));
        } catch (InvocationTargetException e) {
            return e.getCause().getClass().getSimpleName();
        } catch (IllegalAccessException e) {
            throw new IllegalStateException(e);
        }
    }

    private static Object number(Class<?> type, String text) {
        boolean isLong = type == long.class;
        long number = switch (text) {
            case "MIN" -> isLong ? Long.MIN_VALUE : Integer.MIN_VALUE;
            case "MAX" -> isLong ? Long.MAX_VALUE : Integer.MAX_VALUE;
            default -> Long.parseLong(text);
        };
        if (isLong) {
            return number;
        }
        return Math.toIntExact(number);
    }
}
