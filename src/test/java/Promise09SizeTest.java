/** Promise 9: size. */
public final class Promise09SizeTest {
    public static void main(String[] args) {
        sizes();
        allKeys();
        wrongInputs();
        Run.end();
    }

    private static void sizes() {
        new Run("sizes").then("""
            size(0, -1) -> 0
            put(0, -1, 0, 1, 0) -> 0
            put(0, -1, 1, 2, 0) -> 1
            put(0, -1, 1, 2, 0) -> 2
            size(0, -1) -> 2
            size(0, 0) -> 0
            size(0, 1) -> 0
            insert(0, 1, 0, 0, 1) -> 3
            insert(0, 1, 0, 0, 1) -> 4
            size(0, 1) -> 2
            size(0, 2) -> 0
            drop(0, 1, 0) -> 5
            size(0, 1) -> 1
            set(0, 1, 0, 0, 7) -> 6
            size(0, 1) -> 1
            drop(0, -1, 1) -> 7
            size(0, -1) -> 1
            size(0, 1) -> 1
            size(1, -1) -> 0
            """);
    }

    private static void allKeys() {
        Run run = new Run("all keys");
        for (int key = 15; key >= 0; key--) {
            run.then("put(0, -1, " + key + ", 0, 1) -> " + (15 - key) + "\n size(0, -1) -> " + (16 - key));
        }
    }

    private static void wrongInputs() {
        new Run("wrong inputs").then("""
            put(0, -1, 0, 1, 0) -> 0
            put(0, -1, 1, 0, 0) -> 1
            drop(0, -1, 0) -> 2
            size(-1, -1) -> IllegalArgumentException
            size(6, 99) -> IllegalArgumentException
            size(0, -2) -> NoSuchElementException
            size(0, 1) -> NoSuchElementException
            size(0, 2) -> NoSuchElementException
            size(0, 3) -> NoSuchElementException
            size(0, 2147483647) -> NoSuchElementException
            size(1, 0) -> NoSuchElementException
            size(0, 0) -> 0
            """);
    }
}
