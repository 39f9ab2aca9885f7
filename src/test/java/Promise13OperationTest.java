/** Promise 13: operation. */
public final class Promise13OperationTest {
    public static void main(String[] args) {
        everyKind();
        stamps();
        causes();
        noWhat();
        thereIsNone();
        thereIsNoneBeyond300();
        noValue();
        goesToNone();
        overwritesNone();
        differentCauses();
        whatItDoesNotDependOn();
        Run.end();
    }

    private static void tells(Run run, int n, int... due) {
        for (int what = 0; what < due.length; what++) {
            run.then("operation(" + n + ", " + what + ") -> " + due[what]);
        }
    }

    private static void everyKind() {
        Run run = new Run("every kind").then("""
            put(2, -1, 6, 2, 0) -> 0
            insert(2, 0, 0, 0, 5) -> 1
            insert(2, 0, 1, 1, 5) -> 2
            set(2, 0, 0, 0, 6) -> 3
            add(2, 0, 0, 7) -> 4
            drop(2, 0, 0) -> 5
            put(2, 2, 15, 0, 8) -> 6
            add(2, 2, 15, 9) -> 7
            drop(2, 2, 15) -> 8
            """);
        tells(run, 0, 0, 1, 2, -1, 6, 2, 0, -1, 0);
        tells(run, 1, 1, 2, 2, 0, -1, 0, 0, -1, 1);
        tells(run, 2, 1, 3, 2, 0, 1, 1, 0, -1, 2);
        tells(run, 3, 2, 4, 2, 0, 1, 0, 1, -1, 2);
        tells(run, 4, 4, 5, 2, 0, 1, -1, 0, 3, 3);
        tells(run, 5, 3, 6, 2, 0, 1, -1, 1, -1, 3);
        tells(run, 6, 0, 7, 2, 2, 15, 0, 0, -1, 1);
        tells(run, 7, 4, 8, 2, 2, 15, -1, 0, 6, 2);
        tells(run, 8, 3, 9, 2, 2, 15, -1, 1, -1, 2);
    }

    private static void stamps() {
        Run run = new Run("stamps").then("""
            put(0, -1, 0, 0, 0) -> 0
            put(0, -1, 1, 0, 0) -> 1
            put(1, -1, 2, 0, 0) -> 2
            give(1, 1) -> 1
            put(1, -1, 3, 0, 0) -> 3
            put(0, -1, 4, 0, 0) -> 4
            """);
        run.then("operation(2, 1) -> 1\n operation(3, 1) -> 3\n operation(4, 1) -> 3");
        run.then("operation(3, 2) -> 1\n operation(4, 2) -> 0");
    }

    private static void causes() {
        Run run = new Run("an element that is overwritten, or gone to, is one cause").then("""
            put(0, -1, 0, 2, 0) -> 0
            insert(0, 0, 0, 0, 1) -> 1
            sync(0, 1) -> 2
            sync(0, 2) -> 2
            add(0, 0, 0, 1) -> 2
            set(1, 0, 0, 0, 2) -> 3
            set(2, 0, 0, 0, 3) -> 4
            sync(1, 2) -> 1
            drop(2, 0, 0) -> 5
            drop(0, 0, 0) -> 6
            """);
        tells(run, 2, 4, 3, 0, 0, 1, -1, 0, 1, 2);
        tells(run, 4, 2, 3, 2, 0, 1, 0, 1, -1, 2);
        tells(run, 5, 3, 4, 2, 0, 1, -1, 2, -1, 4);
        tells(run, 6, 3, 4, 0, 0, 1, -1, 1, -1, 2);
    }

    private static void noWhat() {
        new Run("IllegalArgumentException: what")
            .then("put(0, -1, 0, 0, 0) -> 0\n operation(0, 0) -> 0\n operation(0, 8) -> 0")
            .refuses("IllegalArgumentException", """
                operation(0, -1)
                operation(0, 9)
                operation(0, MIN)
                operation(0, MAX)
                operation(5, 9)
                operation(-1, -1)
                """);
    }

    private static void thereIsNone() {
        new Run("IndexOutOfBoundsException: there is none")
            .refuses("IndexOutOfBoundsException", "operation(0, 0)\n operation(-1, 0)\n operation(0, 8)")
            .then("put(0, -1, 0, 0, 0) -> 0")
            .refuses("IndexOutOfBoundsException", """
                operation(1, 0)
                operation(-1, 8)
                operation(299, 0)
                operation(300, 0)
                operation(MIN, 0)
                operation(MAX, 0)
                """)
            .then("put(0, -1, 0, 0, 0) -> 1\n operation(1, 1) -> 2");
    }

    private static void thereIsNoneBeyond300() {
        new Run("there is none beyond 300")
            .each(0, 300, "put(0, -1, 0, 0, 0) -> #")
            .refuses("IndexOutOfBoundsException", "operation(300, 0)\n operation(-1, 0)\n operation(301, 0)")
            .then("operation(299, 1) -> 300\n operation(299, 6) -> 1");
    }

    private static void noValue() {
        new Run("the kind of its VALUE, -1 none: DROP, ADD").then("""
            put(0, -1, 0, 2, 0) -> 0
            insert(0, 0, 0, 1, 0) -> 1
            set(0, 0, 0, 0, 0) -> 2
            add(0, 0, 0, 1) -> 3
            drop(0, 0, 0) -> 4
            operation(0, 5) -> 2
            operation(1, 5) -> 1
            operation(2, 5) -> 0
            operation(3, 5) -> -1
            operation(4, 5) -> -1
            """);
    }

    private static void goesToNone() {
        new Run("what it goes to, -1 none").then("""
            put(0, -1, 0, 2, 0) -> 0
            insert(0, 0, 0, 0, 0) -> 1
            set(0, 0, 0, 0, 0) -> 2
            add(0, 0, 0, 1) -> 3
            drop(0, 0, 0) -> 4
            put(0, -1, 1, 0, 0) -> 5
            add(0, -1, 1, 0) -> 6
            operation(0, 7) -> -1
            operation(1, 7) -> -1
            operation(2, 7) -> -1
            operation(3, 7) -> 2
            operation(4, 7) -> -1
            operation(6, 7) -> 5
            """);
        new Run("what it goes to, OPERATION 0")
            .then("put(0, -1, 0, 0, 0) -> 0\n add(0, -1, 0, 0) -> 1\n operation(1, 7) -> 0\n operation(0, 7) -> -1");
    }

    private static void overwritesNone() {
        new Run("how many it OVERWRITES, 0 where there is nothing").then("""
            put(0, -1, 0, 2, 0) -> 0
            insert(0, 0, 0, 0, 0) -> 1
            add(0, 0, 0, 0) -> 2
            put(0, -1, 1, 0, 0) -> 3
            drop(0, -1, 1) -> 4
            put(0, -1, 1, 0, 0) -> 5
            operation(0, 6) -> 0
            operation(1, 6) -> 0
            operation(2, 6) -> 0
            operation(4, 6) -> 1
            operation(5, 6) -> 0
            """);
    }

    private static void differentCauses() {
        new Run("CAUSES, different ones: an element is counted once").then("""
            put(0, -1, 0, 2, 0) -> 0
            insert(0, 0, 0, 0, 0) -> 1
            sync(0, 1) -> 2
            sync(0, 2) -> 2
            sync(0, 3) -> 2
            set(0, 0, 0, 0, 1) -> 2
            add(1, 0, 0, 1) -> 3
            drop(2, 0, 0) -> 4
            insert(3, 0, 1, 0, 1) -> 5
            operation(2, 8) -> 2
            operation(3, 8) -> 2
            operation(4, 8) -> 2
            operation(5, 8) -> 2
            """);
        new Run("CAUSES: none in the ROOT where nothing is OVERWRITTEN")
            .then("put(0, -1, 0, 1, 0) -> 0\n operation(0, 8) -> 0\n put(0, 0, 0, 0, 0) -> 1\n operation(1, 8) -> 1");
    }

    private static void whatItDoesNotDependOn() {
        new Run("it answers the same whatever is made and delivered later").then("""
            put(0, -1, 0, 0, 0) -> 0
            put(1, -1, 0, 0, 0) -> 1
            put(0, -1, 0, 0, 1) -> 2
            operation(2, 6) -> 1
            operation(2, 8) -> 1
            operation(2, 1) -> 2
            sync(1, 0) -> 1
            sync(0, 1) -> 2
            put(1, -1, 0, 0, 2) -> 3
            operation(2, 6) -> 1
            operation(2, 8) -> 1
            operation(2, 1) -> 2
            """);
    }
}
