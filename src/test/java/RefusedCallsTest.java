import java.util.ArrayList;
import java.util.List;

/**
 * "Of several exceptions that which a call names first is thrown; a call that throws changes nothing."
 * Each call is made with all its right and wrong arguments in all ways together. A table names an
 * argument's choices, a wrong one with its fault behind a colon: I IllegalArgumentException,
 * N NoSuchElementException, X IndexOutOfBoundsException, U UnsupportedOperationException; F is an
 * IndexOutOfBoundsException, too: there are 300.
 */
public final class RefusedCallsTest {
    private static final String FAULTS = "INXUF";
    private static final String[] EXCEPTIONS = {"IllegalArgumentException", "NoSuchElementException",
        "IndexOutOfBoundsException", "UnsupportedOperationException", "IndexOutOfBoundsException"};
    private static final int CALLS_AT_ONCE = 150;

    /** Replica 0 shows key 0 a list of a NUMBER and a map, key 1 a NUMBER; operation 8 is not held there. */
    private static final String BEGIN = """
        put(0, -1, 0, 2, 0) -> 0
        insert(0, 0, 0, 0, 1) -> 1
        insert(0, 0, 1, 1, 0) -> 2
        put(0, 2, 5, 0, 7) -> 3
        put(0, -1, 1, 0, 2) -> 4
        add(0, -1, 1, 3) -> 5
        put(0, -1, 2, 0, 4) -> 6
        drop(0, -1, 2) -> 7
        put(1, -1, 3, 1, 0) -> 8
        put(1, 8, 3, 1, 0) -> 9
        give(9, 0) -> 0
        give(3, 2) -> 0
        give(1, 3) -> 0
        insert(0, 0, 2, 0, 9) -> 10
        drop(0, 0, 2) -> 11
        set(0, 0, 0, 0, 5) -> 12
        """;
    private static final int BEGUN = 13;

    private static final String REPLICA = "0 -1:I 6:I MIN:I MAX:I";
    private static final String UNKNOWN = " -2:N 1:N 5:N 7:N 8:N 9:N 300:N MIN:N MAX:N";
    private static final String KIND = "0 1 2 -1:I 3:I MIN:I MAX:I";
    private static final String KEY = "0 15 -1:I 16:I MIN:I MAX:I";
    private static final String KEY_THERE = "0 1 -1:X 2:X 3:X 16:X MIN:X MAX:X";
    private static final String KEY_OF_NUMBER = "1 0:U -1:X 2:X 3:X 16:X MIN:X MAX:X";
    private static final String INDEX_THERE = "0 1 -1:X 2:X MIN:X MAX:X";
    private static final String INDEX_OF_NUMBER = "0 1:U -1:X 2:X MIN:X MAX:X";

    public static void main(String[] args) {
        edits();
        editsWhenThereAre300();
        deliveries();
        reads();
        Run.end();
    }

    private static void edits() {
        refused(false, "put", REPLICA, "-1 2 0:N" + UNKNOWN, KEY, KIND, "1");
        refused(false, "insert", REPLICA, "0 -1:N 2:N" + UNKNOWN, "0 1 2 -1:X 3:X MIN:X MAX:X", KIND, "1");
        refused(false, "set", REPLICA, "0 -1:N 2:N" + UNKNOWN, INDEX_THERE, KIND, "1");
        refused(false, "drop", REPLICA, "-1" + UNKNOWN, KEY_THERE);
        refused(false, "drop", REPLICA, "0" + UNKNOWN, INDEX_THERE);
        refused(false, "add", REPLICA, "-1" + UNKNOWN, KEY_OF_NUMBER, "1");
        refused(false, "add", REPLICA, "0" + UNKNOWN, INDEX_OF_NUMBER, "1");
    }

    private static void editsWhenThereAre300() {
        refused(true, "put", "0 6:I", "-1 2 0:N 8:N", "0 16:I", "0 2 3:I", "1");
        refused(true, "insert", "0 6:I", "0 -1:N 8:N", "0 2 3:X", "0 2 3:I", "1");
        refused(true, "set", "0 6:I", "0 -1:N 8:N", "0 1 2:X", "0 2 3:I", "1");
        refused(true, "drop", "0 6:I", "-1 8:N", "0 1 2:X 16:X");
        refused(true, "drop", "0 6:I", "0 8:N", "0 1 2:X");
        refused(true, "add", "0 6:I", "-1 8:N", "1 0:U 2:X 16:X", "1");
        refused(true, "add", "0 6:I", "0 8:N", "0 1:U 2:X", "1");
    }

    private static void deliveries() {
        refused(false, "sync", REPLICA, REPLICA);
        refused(false, "give", "0 -1:X " + BEGUN + ":X 300:X MIN:X MAX:X", REPLICA);
    }

    private static void reads() {
        String what3 = "0 3 -1:I 4:I MIN:I MAX:I";
        refused(false, "size", REPLICA, "-1 0" + UNKNOWN);
        refused(false, "look", REPLICA, "-1" + UNKNOWN, KEY_THERE, what3);
        refused(false, "look", REPLICA, "0" + UNKNOWN, INDEX_THERE, what3);
        refused(false, "worth", REPLICA, "-1" + UNKNOWN, KEY_OF_NUMBER);
        refused(false, "worth", REPLICA, "0" + UNKNOWN, INDEX_OF_NUMBER);
        refused(false, "value", REPLICA, "-1" + UNKNOWN, KEY_THERE, "0 -1:X 1:X MIN:X MAX:X");
        refused(false, "value", REPLICA, "0" + UNKNOWN, INDEX_THERE, "0 -1:X 1:X MIN:X MAX:X");
        refused(false, "operation", "0 -1:X " + BEGUN + ":X 300:X MIN:X MAX:X", "0 8 -1:I 9:I MIN:I MAX:I");
        refused(false, "same", REPLICA, REPLICA);
        refused(false, "count", "0 4 -1:I 5:I MIN:I MAX:I", REPLICA);
    }

    private static Run begun(boolean full, String name) {
        Run run = new Run(name + (full ? " when there are 300" : "")).then(BEGIN);
        return full ? run.each(BEGUN, 300, "put(4, -1, 0, 0, 1) -> #") : run;
    }

    private static void refused(boolean full, String method, String... tables) {
        List<List<String>> callsOfFault = new ArrayList<>();
        for (int i = 0; i < FAULTS.length(); i++) {
            callsOfFault.add(new ArrayList<>());
        }
        gather(full ? "F" : "", method + "(", tables, 0, callsOfFault);
        for (int i = 0; i < FAULTS.length(); i++) {
            refusedFor(full, method, EXCEPTIONS[i], callsOfFault.get(i));
        }
    }

    private static void refusedFor(boolean full, String method, String exception, List<String> calls) {
        for (int from = 0; from < calls.size(); from += CALLS_AT_ONCE) {
            List<String> some = calls.subList(from, Math.min(from + CALLS_AT_ONCE, calls.size()));
            begun(full, method).refuses(exception, String.join("\n", some));
        }
    }

    private static void gather(String faults, String call, String[] tables, int argument, List<List<String>> callsOfFault) {
        if (argument == tables.length) {
            if (!faults.isEmpty()) {
                callsOfFault.get(firstNamed(faults)).add(call + ")");
            }
            return;
        }
        for (String choice : tables[argument].split(" ")) {
            String[] parts = choice.split(":");
            gather(parts.length == 2 ? faults + parts[1] : faults,
                    call + (argument == 0 ? "" : ", ") + parts[0], tables, argument + 1, callsOfFault);
        }
    }

    private static int firstNamed(String faults) {
        int first = 0;
        while (faults.indexOf(FAULTS.charAt(first)) < 0) {
            first++;
        }
        return first;
    }
}
