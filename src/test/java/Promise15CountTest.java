/** Promise 15: count. */
public final class Promise15CountTest {
    public static void main(String[] args) {
        heldAndWaiting();
        greatestCountStays();
        reachedFromTheRoot();
        wideDocument();
        wrongInputs();
        Run.end();
    }

    private static void heldAndWaiting() {
        new Run("held and waiting").then("""
            put(0, -1, 0, 1, 0) -> 0
            put(0, 0, 0, 0, 0) -> 1
            drop(0, 0, 0) -> 2
            count(0, 0) -> 3
            count(0, 5) -> 3
            count(1, 0) -> 3
            count(1, 1) -> 0
            count(3, 0) -> 3
            count(3, 1) -> 0
            give(2, 1) -> 0
            give(1, 1) -> 0
            count(1, 1) -> 0
            count(2, 1) -> 2
            count(3, 1) -> 0
            give(0, 1) -> 3
            count(1, 1) -> 3
            count(2, 1) -> 0
            count(3, 1) -> 3
            """);
    }

    private static void greatestCountStays() {
        new Run("a lesser count that comes later changes nothing").then("""
            put(0, -1, 0, 0, 0) -> 0
            put(0, -1, 1, 0, 0) -> 1
            put(0, -1, 2, 0, 0) -> 2
            give(2, 1) -> 1
            give(0, 1) -> 1
            count(3, 1) -> 3
            put(1, -1, 3, 0, 0) -> 3
            operation(3, 1) -> 4
            """);
    }

    private static void reachedFromTheRoot() {
        new Run("reached from the root by winners").then("""
            count(4, 0) -> 1
            put(0, -1, 0, 1, 0) -> 0
            put(0, 0, 0, 2, 0) -> 1
            insert(0, 1, 0, 1, 0) -> 2
            insert(0, 1, 0, 0, 0) -> 3
            count(4, 0) -> 4
            count(4, 1) -> 1
            drop(0, 1, 1) -> 4
            count(4, 0) -> 3
            put(1, -1, 0, 2, 0) -> 5
            sync(0, 1) -> 5
            count(4, 1) -> 2
            put(0, -1, 1, 1, 0) -> 6
            put(0, -1, 1, 1, 0) -> 7
            count(4, 0) -> 4
            put(0, 6, 1, 1, 0) -> 8
            count(4, 0) -> 4
            put(0, -1, 0, 0, 0) -> 9
            count(4, 0) -> 2
            """);
    }

    private static void wideDocument() {
        Run run = new Run("a wide document").then("put(0, -1, 0, 2, 0) -> 0");
        for (int i = 1; i < 300; i++) {
            run.then("insert(0, 0, 0, " + (1 + i % 2) + ", 0) -> " + i);
        }
        run.then("count(4, 0) -> 301\n count(4, 0) -> 301\n sync(0, 1) -> 300\n same(0, 1) -> true\n count(3, 1) -> 300");
    }

    private static void wrongInputs() {
        new Run("wrong inputs").then("""
            count(-1, 0) -> IllegalArgumentException
            count(5, 0) -> IllegalArgumentException
            count(0, -1) -> IllegalArgumentException
            count(0, 6) -> IllegalArgumentException
            count(1, 6) -> IllegalArgumentException
            count(2, -1) -> IllegalArgumentException
            count(3, 6) -> IllegalArgumentException
            count(4, 6) -> IllegalArgumentException
            count(4, 5) -> 1
            """);
    }
}
