/** Promise 11: worth. */
public final class Promise11WorthTest {
    public static void main(String[] args) {
        worths();
        addsToOtherValuesDoNotCount();
        addsThatAreNotHeldDoNotCount();
        noReplica();
        objectIsNotKnown();
        keyIsNotThere();
        elementIsNotThere();
        winnerIsNoNumber();
        onlyTheWinnerMustBeANumber();
        Run.end();
    }

    private static void worths() {
        new Run("worths, wrapping").then("""
            put(0, -1, 0, 0, 9223372036854775807) -> 0
            worth(0, -1, 0) -> 9223372036854775807
            add(0, -1, 0, 1) -> 1
            worth(0, -1, 0) -> -9223372036854775808
            add(0, -1, 0, -1) -> 2
            worth(0, -1, 0) -> 9223372036854775807
            put(0, -1, 1, 2, 0) -> 3
            insert(0, 3, 0, 0, -4) -> 4
            worth(0, 3, 0) -> -4
            add(0, 3, 0, 4294967296) -> 5
            worth(0, 3, 0) -> 4294967292
            """);
    }

    private static void addsToOtherValuesDoNotCount() {
        new Run("adds stay with the value that they go to").then("""
            put(0, -1, 0, 0, 1) -> 0
            sync(0, 1) -> 1
            put(1, -1, 0, 0, 2) -> 1
            add(0, -1, 0, 10) -> 2
            sync(1, 0) -> 1
            worth(0, -1, 0) -> 2
            sync(0, 1) -> 1
            worth(1, -1, 0) -> 2
            add(1, -1, 0, 5) -> 3
            worth(1, -1, 0) -> 7
            worth(0, -1, 0) -> 2
            """);
    }

    private static void addsThatAreNotHeldDoNotCount() {
        new Run("adds that wait or are not held do not count").then("""
            put(0, -1, 0, 1, 1) -> 0
            put(0, 0, 0, 0, 1) -> 1
            add(0, 0, 0, 10) -> 2
            add(0, 0, 0, 100) -> 3
            give(3, 1) -> 0
            give(0, 1) -> 1
            give(1, 1) -> 2
            worth(1, 0, 0) -> 101
            worth(0, 0, 0) -> 111
            """);
    }

    private static void noReplica() {
        new Run("likewise: replica")
            .then("put(5, -1, 0, 0, 4) -> 0\n sync(5, 0) -> 1\n worth(0, -1, 0) -> 4\n worth(5, -1, 0) -> 4")
            .refuses("IllegalArgumentException", """
                worth(-1, -1, 0)
                worth(6, -1, 0)
                worth(MIN, -1, 0)
                worth(MAX, -1, 0)
                worth(6, 9, 99)
                """);
    }

    private static void objectIsNotKnown() {
        new Run("likewise: the OBJECT is not known")
            .then("put(0, -1, 0, 2, 0) -> 0\n insert(0, 0, 0, 0, 0) -> 1")
            .then("add(0, 0, 0, 1) -> 2\n put(0, -1, 1, 0, 1) -> 3")
            .then("put(1, -1, 0, 2, 0) -> 4\n insert(1, 4, 0, 2, 0) -> 5\n give(5, 0) -> 0\n drop(0, -1, 1) -> 6")
            .refuses("NoSuchElementException", """
                worth(0, -2, 0)
                worth(0, 1, 0)
                worth(0, 2, 0)
                worth(0, 3, 0)
                worth(0, 4, 0)
                worth(0, 5, 0)
                worth(0, 6, 0)
                worth(0, 7, 0)
                worth(0, 300, 0)
                worth(0, MIN, 0)
                worth(0, MAX, 0)
                worth(1, 0, 0)
                worth(1, 0, 99)
                """);
    }

    private static void keyIsNotThere() {
        new Run("likewise: a key is not THERE")
            .then("put(0, -1, 0, 0, 1) -> 0\n put(0, -1, 15, 0, 1) -> 1")
            .then("put(0, -1, 7, 1, 1) -> 2\n drop(0, -1, 7) -> 3")
            .refuses("IndexOutOfBoundsException", """
                worth(0, -1, 1)
                worth(0, -1, 7)
                worth(0, -1, -1)
                worth(0, -1, 16)
                worth(0, -1, MIN)
                worth(0, -1, MAX)
                worth(1, -1, 0)
                """)
            .then("worth(0, -1, 0) -> 1\n worth(0, -1, 15) -> 1");
    }

    private static void elementIsNotThere() {
        new Run("likewise: the element at an index is not THERE")
            .then("put(0, -1, 0, 2, 0) -> 0")
            .refuses("IndexOutOfBoundsException", "worth(0, 0, 0)\n worth(0, 0, -1)")
            .then("insert(0, 0, 0, 0, 1) -> 1\n insert(0, 0, 1, 0, 2) -> 2\n drop(0, 0, 0) -> 3")
            .refuses("IndexOutOfBoundsException", """
                worth(0, 0, -1)
                worth(0, 0, 1)
                worth(0, 0, MIN)
                worth(0, 0, MAX)
                """)
            .then("worth(0, 0, 0) -> 2");
    }

    private static void winnerIsNoNumber() {
        new Run("UnsupportedOperationException: it is no NUMBER")
            .then("put(0, -1, 0, 1, 5) -> 0\n put(0, -1, 1, 2, 5) -> 1")
            .then("insert(0, 1, 0, 2, 5) -> 2\n insert(0, 1, 0, 0, 5) -> 3")
            .then("set(0, 1, 0, 1, 5) -> 4")
            .refuses("UnsupportedOperationException", """
                worth(0, -1, 0)
                worth(0, -1, 1)
                worth(0, 1, 0)
                worth(0, 1, 1)
                """)
            .then("set(0, 1, 0, 0, 6) -> 5\n worth(0, 1, 0) -> 6");
    }

    private static void onlyTheWinnerMustBeANumber() {
        new Run("the WINNER is no NUMBER although another LIVE VALUE is")
            .then("put(0, -1, 0, 0, 5) -> 0\n put(1, -1, 0, 1, 0) -> 1\n put(2, -1, 0, 0, 6) -> 2\n sync(0, 1) -> 1")
            .refuses("UnsupportedOperationException", "worth(1, -1, 0)")
            .then("sync(1, 2) -> 2\n look(2, -1, 0, 2) -> 3\n worth(2, -1, 0) -> 6");
    }
}
