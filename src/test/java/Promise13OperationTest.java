/** Promise 13: operation. */
public final class Promise13OperationTest {
    public static void main(String[] args) {
        everyKind();
        stamps();
        causes();
        wrongInputs();
        Run.end();
    }

    private static void tells(Run run, int n, int... due) {
        for (int what = 0; what < due.length; what++) {
            run.then("operation(" + n + ", " + what + ") -> " + due[what]);
        }
    }

    private static void everyKind() {
        Run run = new Run("every kind").then("""
            put(2, -1, 6, 2, 0) -> 0
            insert(2, 0, 0, 0, 5) -> 1
            insert(2, 0, 1, 1, 5) -> 2
            set(2, 0, 0, 0, 6) -> 3
            add(2, 0, 0, 7) -> 4
            drop(2, 0, 0) -> 5
            put(2, 2, 15, 0, 8) -> 6
            add(2, 2, 15, 9) -> 7
            drop(2, 2, 15) -> 8
            """);
        tells(run, 0, 0, 1, 2, -1, 6, 2, 0, -1, 0);
        tells(run, 1, 1, 2, 2, 0, -1, 0, 0, -1, 1);
        tells(run, 2, 1, 3, 2, 0, 1, 1, 0, -1, 2);
        tells(run, 3, 2, 4, 2, 0, 1, 0, 1, -1, 2);
        tells(run, 4, 4, 5, 2, 0, 1, -1, 0, 3, 3);
        tells(run, 5, 3, 6, 2, 0, 1, -1, 1, -1, 3);
        tells(run, 6, 0, 7, 2, 2, 15, 0, 0, -1, 1);
        tells(run, 7, 4, 8, 2, 2, 15, -1, 0, 6, 2);
        tells(run, 8, 3, 9, 2, 2, 15, -1, 1, -1, 2);
    }

    private static void stamps() {
        Run run = new Run("stamps").then("""
            put(0, -1, 0, 0, 0) -> 0
            put(0, -1, 1, 0, 0) -> 1
            put(1, -1, 2, 0, 0) -> 2
            give(1, 1) -> 1
            put(1, -1, 3, 0, 0) -> 3
            put(0, -1, 4, 0, 0) -> 4
            """);
        run.then("operation(2, 1) -> 1\n operation(3, 1) -> 3\n operation(4, 1) -> 3");
        run.then("operation(3, 2) -> 1\n operation(4, 2) -> 0");
    }

    private static void causes() {
        Run run = new Run("an element that is overwritten, or gone to, is one cause").then("""
            put(0, -1, 0, 2, 0) -> 0
            insert(0, 0, 0, 0, 1) -> 1
            sync(0, 1) -> 2
            sync(0, 2) -> 2
            add(0, 0, 0, 1) -> 2
            set(1, 0, 0, 0, 2) -> 3
            set(2, 0, 0, 0, 3) -> 4
            sync(1, 2) -> 1
            drop(2, 0, 0) -> 5
            drop(0, 0, 0) -> 6
            """);
        tells(run, 2, 4, 3, 0, 0, 1, -1, 0, 1, 2);
        tells(run, 4, 2, 3, 2, 0, 1, 0, 1, -1, 2);
        tells(run, 5, 3, 4, 2, 0, 1, -1, 2, -1, 4);
        tells(run, 6, 3, 4, 0, 0, 1, -1, 1, -1, 2);
    }

    private static void wrongInputs() {
        new Run("wrong inputs").then("""
            operation(0, 0) -> IndexOutOfBoundsException
            put(0, -1, 0, 0, 0) -> 0
            operation(0, -1) -> IllegalArgumentException
            operation(0, 9) -> IllegalArgumentException
            operation(5, 9) -> IllegalArgumentException
            operation(-1, -1) -> IllegalArgumentException
            operation(1, 0) -> IndexOutOfBoundsException
            operation(-1, 8) -> IndexOutOfBoundsException
            operation(300, 0) -> IndexOutOfBoundsException
            operation(2147483647, 0) -> IndexOutOfBoundsException
            """);
    }
}
