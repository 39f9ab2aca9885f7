import java.util.ArrayList;
import java.util.List;

/** Long runs of calls, the same ones every time, answered by WeaveDesk as by PlainModel. */
public final class RandomRunsTest {
    private static final int RUNS = 1500;
    private static final int CALLS = 512;
    private static final String[] EDITS = {"put", "insert", "set", "drop", "add"};
    private static final String[] READS = {"size", "look", "worth", "value", "operation", "same", "count"};

    private long seed;
    private int replicas;
    private int keys;
    private int editShare;
    private int syncShare;
    private int giveShare;
    private int nestShare;
    private int wrongShare;
    private boolean shallow;
    private final List<Integer> objects = new ArrayList<>();
    private int made;

    private RandomRunsTest(int run) {
        seed = 88172645463325252L + run * 7919L;
        replicas = 2 + below(5);
        keys = 1 + below(below(2) == 0 ? 2 : 16);
        editShare = 20 + below(60);
        syncShare = below(20);
        giveShare = below(40);
        nestShare = below(60);
        wrongShare = below(4) == 0 ? 30 : 3;
        if (run % 5 == 0) {
            fillUp();
        }
        objects.add(-1);
    }

    /** So many edits, most of them right, that there is no room for more at the end. */
    private void fillUp() {
        editShare = 92;
        syncShare = 4;
        giveShare = 4;
        wrongShare = 1;
        shallow = true;
    }

    public static void main(String[] args) {
        int wrong = 0;
        int full = 0;
        for (int run = 0; run < RUNS && wrong < 5; run++) {
            RandomRunsTest test = new RandomRunsTest(run);
            wrong += test.compare(run);
            full += test.made == 300 ? 1 : 0;
        }
        System.out.println(RUNS + " runs, " + full + " with 300 operations, " + wrong + " with an answer not as due");
        if (wrong != 0 || full == 0) {
            System.exit(1);
        }
    }

    private int compare(int run) {
        WeaveDesk desk = new WeaveDesk();
        PlainModel model = new PlainModel();
        List<String> told = new ArrayList<>();
        for (int i = 0; i < CALLS; i++) {
            String method = method();
            String[] arguments = arguments(method);
            String due = Run.answer(model, method, arguments);
            String got = Run.answer(desk, method, arguments);
            told.add(method + "(" + String.join(", ", arguments) + ") -> " + due);
            if (!due.equals(got)) {
                System.out.println("run " + run + ":\n" + String.join("\n", told) + ", but it answered " + got);
                return 1;
            }
            learn(method, arguments, due);
        }
        return 0;
    }

    private void learn(String method, String[] arguments, String answer) {
        if (!List.of(EDITS).contains(method) || !Character.isDigit(answer.charAt(0))) {
            return;
        }
        made++;
        if (arguments.length == 5 && !arguments[3].equals("0")) {
            objects.add(Integer.parseInt(answer));
        }
    }

    private int below(int bound) {
        seed ^= seed << 13;
        seed ^= seed >>> 7;
        seed ^= seed << 17;
        return (int) Long.remainderUnsigned(seed, bound);
    }

    private String method() {
        int dice = below(100 + syncShare + giveShare);
        if (dice < editShare) {
            return shallow && below(2) == 0 ? "put" : EDITS[below(EDITS.length)];
        }
        if (dice < 100) {
            return READS[below(READS.length)];
        }
        return dice < 100 + syncShare ? "sync" : "give";
    }

    private String[] arguments(String method) {
        switch (method) {
            case "put": return texts(replica(), shallow ? -1 : object(), key(), kind(), number());
            case "insert": return texts(replica(), object(), index(), kind(), number());
            case "set": return texts(replica(), object(), index(), kind(), number());
            case "drop": return texts(replica(), object(), index());
            case "add": return texts(replica(), object(), index(), number());
            case "sync": return texts(replica(), replica());
            case "give": return texts(oneOf(made), replica());
            case "size": return texts(replica(), object());
            case "look": return texts(replica(), object(), index(), oneOf(4));
            case "worth": return texts(replica(), object(), index());
            case "value": return texts(replica(), object(), index(), oneOf(3));
            case "operation": return texts(oneOf(made), oneOf(9));
            case "same": return texts(replica(), replica());
            default: return texts(oneOf(5), replica());
        }
    }

    private static String[] texts(long... numbers) {
        String[] texts = new String[numbers.length];
        for (int i = 0; i < numbers.length; i++) {
            texts[i] = Long.toString(numbers[i]);
        }
        return texts;
    }

    private boolean isWrong() {
        return below(100) < wrongShare;
    }

    private int wrongNumber() {
        int[] wrong = {-1, -2, 3, 4, 6, 9, 16, 299, 300, Integer.MAX_VALUE, Integer.MIN_VALUE};
        return wrong[below(wrong.length)];
    }

    private int oneOf(int bound) {
        return isWrong() || bound == 0 ? wrongNumber() : below(bound);
    }

    private int replica() {
        return oneOf(replicas);
    }

    private int object() {
        return isWrong() ? wrongNumber() : objects.get(below(Math.min(objects.size(), 8)));
    }

    private int key() {
        return oneOf(keys);
    }

    private int index() {
        return oneOf(below(3) == 0 ? keys : 4);
    }

    private int kind() {
        return isWrong() ? wrongNumber() : below(100) < nestShare ? 1 + below(2) : 0;
    }

    private long number() {
        long[] edges = {Long.MAX_VALUE, Long.MIN_VALUE, 0, -1};
        return below(10) == 0 ? edges[below(edges.length)] : below(3);
    }
}
