/** Promise 11: worth. */
public final class Promise11WorthTest {
    public static void main(String[] args) {
        worths();
        addsToOtherValuesDoNotCount();
        addsThatAreNotHeldDoNotCount();
        wrongInputs();
        Run.end();
    }

    private static void worths() {
        new Run("worths, wrapping").then("""
            put(0, -1, 0, 0, 9223372036854775807) -> 0
            worth(0, -1, 0) -> 9223372036854775807
            add(0, -1, 0, 1) -> 1
            worth(0, -1, 0) -> -9223372036854775808
            add(0, -1, 0, -1) -> 2
            worth(0, -1, 0) -> 9223372036854775807
            put(0, -1, 1, 2, 0) -> 3
            insert(0, 3, 0, 0, -4) -> 4
            worth(0, 3, 0) -> -4
            add(0, 3, 0, 4294967296) -> 5
            worth(0, 3, 0) -> 4294967292
            """);
    }

    private static void addsToOtherValuesDoNotCount() {
        new Run("adds stay with the value that they go to").then("""
            put(0, -1, 0, 0, 1) -> 0
            sync(0, 1) -> 1
            put(1, -1, 0, 0, 2) -> 1
            add(0, -1, 0, 10) -> 2
            sync(1, 0) -> 1
            worth(0, -1, 0) -> 2
            sync(0, 1) -> 1
            worth(1, -1, 0) -> 2
            add(1, -1, 0, 5) -> 3
            worth(1, -1, 0) -> 7
            worth(0, -1, 0) -> 2
            """);
    }

    private static void addsThatAreNotHeldDoNotCount() {
        new Run("adds that wait or are not held do not count").then("""
            put(0, -1, 0, 1, 1) -> 0
            put(0, 0, 0, 0, 1) -> 1
            add(0, 0, 0, 10) -> 2
            add(0, 0, 0, 100) -> 3
            give(3, 1) -> 0
            give(0, 1) -> 1
            give(1, 1) -> 2
            worth(1, 0, 0) -> 101
            worth(0, 0, 0) -> 111
            """);
    }

    private static void wrongInputs() {
        new Run("wrong inputs").then("""
            put(0, -1, 0, 2, 5) -> 0
            put(0, -1, 1, 1, 5) -> 1
            worth(-1, -1, 0) -> IllegalArgumentException
            worth(6, 9, 9) -> IllegalArgumentException
            worth(0, 9, 9) -> NoSuchElementException
            worth(1, 0, 0) -> NoSuchElementException
            worth(0, -1, 16) -> IndexOutOfBoundsException
            worth(0, -1, 2) -> IndexOutOfBoundsException
            worth(0, 0, 0) -> IndexOutOfBoundsException
            worth(0, -1, 0) -> UnsupportedOperationException
            worth(0, -1, 1) -> UnsupportedOperationException
            insert(0, 0, 0, 1, 5) -> 2
            worth(0, 0, 0) -> UnsupportedOperationException
            """);
    }
}
