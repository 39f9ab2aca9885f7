/** Promise 6: add. */
public final class Promise06AddTest {
    public static void main(String[] args) {
        addsToKeys();
        addsToElements();
        addsOfSeveralReplicas();
        addGoesToTheWinnerAlone();
        anyNumber();
        noReplica();
        objectIsNotKnown();
        keyIsNotThere();
        elementIsNotThere();
        winnerIsNoNumber();
        onlyTheWinnerMustBeANumber();
        kindIsLookedAtBeforeHowManyThereAre();
        thereAre300();
        Run.end();
    }

    private static void addsToKeys() {
        new Run("adds to keys").then("""
            put(0, -1, 7, 0, 5) -> 0
            add(0, -1, 7, 3) -> 1
            add(0, -1, 7, -10) -> 2
            worth(0, -1, 7) -> -2
            look(0, -1, 7, 1) -> 0
            look(0, -1, 7, 2) -> 1
            operation(1, 0) -> 4
            operation(1, 4) -> 7
            operation(1, 5) -> -1
            operation(1, 6) -> 0
            operation(1, 7) -> 0
            operation(1, 8) -> 1
            add(0, -1, 7, -9223372036854775808) -> 3
            worth(0, -1, 7) -> 9223372036854775806
            put(0, -1, 7, 0, 1) -> 4
            operation(4, 6) -> 1
            worth(0, -1, 7) -> 1
            """);
    }

    private static void addsToElements() {
        new Run("adds to elements").then("""
            put(0, -1, 0, 2, 0) -> 0
            insert(0, 0, 0, 0, 1) -> 1
            insert(0, 0, 0, 0, 2) -> 2
            add(0, 0, 1, 10) -> 3
            worth(0, 0, 0) -> 2
            worth(0, 0, 1) -> 11
            operation(3, 4) -> 1
            operation(3, 7) -> 1
            operation(3, 8) -> 2
            set(0, 0, 1, 0, 5) -> 4
            add(0, 0, 1, 10) -> 5
            worth(0, 0, 1) -> 15
            operation(5, 4) -> 1
            operation(5, 7) -> 4
            operation(5, 8) -> 3
            """);
    }

    private static void addsOfSeveralReplicas() {
        new Run("adds of several replicas").then("""
            put(0, -1, 0, 0, 100) -> 0
            sync(0, 1) -> 1
            sync(0, 2) -> 1
            add(0, -1, 0, 1) -> 1
            add(1, -1, 0, 20) -> 2
            add(2, -1, 0, 300) -> 3
            worth(1, -1, 0) -> 120
            sync(0, 1) -> 1
            worth(1, -1, 0) -> 121
            sync(0, 1) -> 0
            worth(1, -1, 0) -> 121
            sync(2, 1) -> 1
            sync(1, 0) -> 2
            worth(0, -1, 0) -> 421
            worth(1, -1, 0) -> 421
            """);
    }

    private static void addGoesToTheWinnerAlone() {
        new Run("an add goes to the winner alone").then("""
            put(0, -1, 0, 0, 1) -> 0
            put(1, -1, 0, 0, 2) -> 1
            add(0, -1, 0, 10) -> 2
            sync(0, 1) -> 2
            worth(1, -1, 0) -> 2
            add(1, -1, 0, 20) -> 3
            worth(1, -1, 0) -> 22
            operation(3, 7) -> 1
            put(2, -1, 0, 0, 7) -> 4
            give(3, 2) -> 0
            worth(2, -1, 0) -> 7
            give(1, 2) -> 2
            worth(2, -1, 0) -> 7
            value(2, -1, 0, 1) -> 1
            """);
    }

    private static void anyNumber() {
        new Run("v is any number of 64 bits").then("""
            put(0, -1, 0, 0, 0) -> 0
            add(0, -1, 0, MIN) -> 1
            worth(0, -1, 0) -> -9223372036854775808
            add(0, -1, 0, MAX) -> 2
            worth(0, -1, 0) -> -1
            add(0, -1, 0, 0) -> 3
            worth(0, -1, 0) -> -1
            count(1, 0) -> 4
            """);
    }

    private static void noReplica() {
        new Run("likewise: replica")
            .then("put(5, -1, 0, 0, 1) -> 0\n sync(5, 0) -> 1\n add(0, -1, 0, 1) -> 1\n add(5, -1, 0, 1) -> 2")
            .refuses("IllegalArgumentException", """
                add(-1, -1, 0, 1)
                add(6, -1, 0, 1)
                add(MIN, -1, 0, 1)
                add(MAX, -1, 0, 1)
                add(6, 9, 99, 1)
                """);
    }

    private static void objectIsNotKnown() {
        new Run("likewise: the OBJECT is not known")
            .then("put(0, -1, 0, 2, 0) -> 0\n insert(0, 0, 0, 0, 0) -> 1")
            .then("add(0, 0, 0, 1) -> 2\n put(0, -1, 1, 0, 1) -> 3")
            .then("put(1, -1, 0, 2, 0) -> 4\n insert(1, 4, 0, 2, 0) -> 5\n give(5, 0) -> 0\n drop(0, -1, 1) -> 6")
            .refuses("NoSuchElementException", """
                add(0, -2, 0, 1)
                add(0, 1, 0, 1)
                add(0, 2, 0, 1)
                add(0, 3, 0, 1)
                add(0, 4, 0, 1)
                add(0, 5, 0, 1)
                add(0, 6, 0, 1)
                add(0, 7, 0, 1)
                add(0, 300, 0, 1)
                add(0, MIN, 0, 1)
                add(0, MAX, 0, 1)
                add(1, 0, 0, 1)
                add(1, 0, 99, 1)
                """);
    }

    private static void keyIsNotThere() {
        new Run("likewise: a key is not THERE (one beyond 0..15, too)")
            .then("put(0, -1, 0, 0, 1) -> 0\n put(0, -1, 15, 0, 1) -> 1")
            .then("put(0, -1, 7, 0, 1) -> 2\n drop(0, -1, 7) -> 3")
            .refuses("IndexOutOfBoundsException", """
                add(0, -1, 1, 1)
                add(0, -1, 7, 1)
                add(0, -1, -1, 1)
                add(0, -1, 16, 1)
                add(0, -1, MIN, 1)
                add(0, -1, MAX, 1)
                add(1, -1, 0, 1)
                """)
            .then("add(0, -1, 0, 1) -> 4\n add(0, -1, 15, 1) -> 5");
    }

    private static void elementIsNotThere() {
        new Run("likewise: the element at an index is not THERE")
            .then("put(0, -1, 0, 2, 0) -> 0")
            .refuses("IndexOutOfBoundsException", "add(0, 0, 0, 1)\n add(0, 0, -1, 1)")
            .then("insert(0, 0, 0, 0, 1) -> 1\n insert(0, 0, 1, 0, 2) -> 2\n drop(0, 0, 0) -> 3")
            .refuses("IndexOutOfBoundsException", """
                add(0, 0, -1, 1)
                add(0, 0, 1, 1)
                add(0, 0, MIN, 1)
                add(0, 0, MAX, 1)
                """)
            .then("add(0, 0, 0, 1) -> 4\n worth(0, 0, 0) -> 3");
    }

    private static void winnerIsNoNumber() {
        new Run("UnsupportedOperationException: the WINNER is no NUMBER")
            .then("put(0, -1, 0, 1, 0) -> 0\n put(0, -1, 1, 2, 0) -> 1")
            .then("insert(0, 1, 0, 2, 0) -> 2\n insert(0, 1, 0, 0, 5) -> 3")
            .then("set(0, 1, 0, 1, 5) -> 4")
            .refuses("UnsupportedOperationException", """
                add(0, -1, 0, 1)
                add(0, -1, 1, 1)
                add(0, 1, 0, 1)
                add(0, 1, 1, 1)
                add(0, -1, 0, 0)
                """)
            .then("set(0, 1, 0, 0, 5) -> 5\n add(0, 1, 0, 1) -> 6\n worth(0, 1, 0) -> 6");
    }

    private static void onlyTheWinnerMustBeANumber() {
        new Run("the WINNER, not another LIVE VALUE")
            .then("put(0, -1, 0, 1, 0) -> 0\n put(1, -1, 0, 0, 5) -> 1\n put(2, -1, 0, 2, 0) -> 2")
            .then("sync(0, 1) -> 1\n add(1, -1, 0, 1) -> 3\n operation(3, 7) -> 1")
            .then("sync(1, 2) -> 3\n look(2, -1, 0, 2) -> 3")
            .refuses("UnsupportedOperationException", "add(2, -1, 0, 1)")
            .then("worth(1, -1, 0) -> 6");
    }

    private static void kindIsLookedAtBeforeHowManyThereAre() {
        new Run("looked at before how many there are")
            .then("put(0, -1, 0, 0, 0) -> 0\n put(0, -1, 1, 1, 0) -> 1")
            .then("put(0, -1, 2, 2, 0) -> 2\n insert(0, 2, 0, 2, 0) -> 3")
            .each(4, 300, "add(0, -1, 0, 1) -> #")
            .refuses("UnsupportedOperationException", """
                add(0, -1, 1, 1)
                add(0, -1, 2, 1)
                add(0, 2, 0, 1)
                """);
    }

    private static void thereAre300() {
        new Run("likewise: or there are 300")
            .then("put(0, -1, 0, 0, 0) -> 0\n put(0, -1, 1, 1, 0) -> 1")
            .each(2, 300, "add(0, -1, 0, 1) -> #")
            .refuses("IndexOutOfBoundsException", "add(0, -1, 0, 1)\n add(0, -1, 2, 1)\n add(0, -1, 16, 1)")
            .refuses("NoSuchElementException", "add(0, 0, 0, 1)\n add(0, 300, 0, 1)")
            .refuses("IllegalArgumentException", "add(6, -1, 0, 1)")
            .then("worth(0, -1, 0) -> 298");
    }
}
