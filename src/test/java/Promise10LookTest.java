/** Promise 10: look. */
public final class Promise10LookTest {
    public static void main(String[] args) {
        looksAtKeys();
        looksAtElements();
        looksAtSeveralLiveValues();
        wrongInputs();
        Run.end();
    }

    private static void looksAtKeys() {
        new Run("looks at keys").then("""
            put(0, -1, 15, 0, 4) -> 0
            put(0, -1, 8, 1, 4) -> 1
            put(0, -1, 0, 2, 4) -> 2
            look(0, -1, 15, 0) -> 0
            look(0, -1, 8, 0) -> 1
            look(0, -1, 0, 0) -> 2
            look(0, -1, 15, 1) -> 0
            look(0, -1, 8, 1) -> 1
            look(0, -1, 0, 1) -> 2
            look(0, -1, 8, 2) -> 1
            look(0, -1, 15, 3) -> 15
            look(0, -1, 8, 3) -> 8
            look(0, -1, 0, 3) -> 0
            """);
    }

    private static void looksAtElements() {
        new Run("looks at elements").then("""
            put(0, -1, 0, 2, 0) -> 0
            insert(0, 0, 0, 0, 1) -> 1
            insert(0, 0, 0, 2, 1) -> 2
            set(0, 0, 1, 1, 0) -> 3
            look(0, 0, 0, 0) -> 2
            look(0, 0, 0, 1) -> 2
            look(0, 0, 0, 3) -> 2
            look(0, 0, 1, 0) -> 1
            look(0, 0, 1, 1) -> 3
            look(0, 0, 1, 2) -> 1
            look(0, 0, 1, 3) -> 1
            """);
    }

    private static void looksAtSeveralLiveValues() {
        new Run("looks at several live values").then("""
            put(0, -1, 3, 2, 0) -> 0
            put(1, -1, 3, 0, 0) -> 1
            put(2, -1, 3, 1, 0) -> 2
            sync(0, 3) -> 1
            look(3, -1, 3, 0) -> 2
            sync(2, 3) -> 1
            look(3, -1, 3, 0) -> 1
            sync(1, 3) -> 1
            look(3, -1, 3, 0) -> 1
            look(3, -1, 3, 1) -> 2
            look(3, -1, 3, 2) -> 3
            look(3, -1, 3, 3) -> 3
            """);
    }

    private static void wrongInputs() {
        new Run("wrong inputs").then("""
            put(0, -1, 0, 2, 0) -> 0
            put(0, -1, 1, 0, 0) -> 1
            look(-1, -1, 0, 0) -> IllegalArgumentException
            look(6, 9, 9, 9) -> IllegalArgumentException
            look(0, -1, 0, -1) -> IllegalArgumentException
            look(0, -1, 0, 4) -> IllegalArgumentException
            look(0, 9, 9, 4) -> IllegalArgumentException
            look(0, 9, 9, 3) -> NoSuchElementException
            look(0, 1, 0, 0) -> NoSuchElementException
            look(1, 0, 0, 0) -> NoSuchElementException
            look(0, -1, 2, 0) -> IndexOutOfBoundsException
            look(0, -1, -1, 3) -> IndexOutOfBoundsException
            look(0, -1, 16, 3) -> IndexOutOfBoundsException
            look(0, 0, 0, 2) -> IndexOutOfBoundsException
            look(0, 0, -1, 2) -> IndexOutOfBoundsException
            look(1, -1, 0, 1) -> IndexOutOfBoundsException
            """);
    }
}
