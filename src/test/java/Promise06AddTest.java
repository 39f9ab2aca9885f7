/** Promise 6: add. */
public final class Promise06AddTest {
    public static void main(String[] args) {
        addsToKeys();
        addsToElements();
        addsOfSeveralReplicas();
        addGoesToTheWinnerAlone();
        wrongInputs();
        threeHundred();
        Run.end();
    }

    private static void addsToKeys() {
        new Run("adds to keys").then("""
            put(0, -1, 7, 0, 5) -> 0
            add(0, -1, 7, 3) -> 1
            add(0, -1, 7, -10) -> 2
            worth(0, -1, 7) -> -2
            look(0, -1, 7, 1) -> 0
            look(0, -1, 7, 2) -> 1
            operation(1, 0) -> 4
            operation(1, 4) -> 7
            operation(1, 5) -> -1
            operation(1, 6) -> 0
            operation(1, 7) -> 0
            operation(1, 8) -> 1
            add(0, -1, 7, -9223372036854775808) -> 3
            worth(0, -1, 7) -> 9223372036854775806
            put(0, -1, 7, 0, 1) -> 4
            operation(4, 6) -> 1
            worth(0, -1, 7) -> 1
            """);
    }

    private static void addsToElements() {
        new Run("adds to elements").then("""
            put(0, -1, 0, 2, 0) -> 0
            insert(0, 0, 0, 0, 1) -> 1
            insert(0, 0, 0, 0, 2) -> 2
            add(0, 0, 1, 10) -> 3
            worth(0, 0, 0) -> 2
            worth(0, 0, 1) -> 11
            operation(3, 4) -> 1
            operation(3, 7) -> 1
            operation(3, 8) -> 2
            set(0, 0, 1, 0, 5) -> 4
            add(0, 0, 1, 10) -> 5
            worth(0, 0, 1) -> 15
            operation(5, 4) -> 1
            operation(5, 7) -> 4
            operation(5, 8) -> 3
            """);
    }

    private static void addsOfSeveralReplicas() {
        new Run("adds of several replicas").then("""
            put(0, -1, 0, 0, 100) -> 0
            sync(0, 1) -> 1
            sync(0, 2) -> 1
            add(0, -1, 0, 1) -> 1
            add(1, -1, 0, 20) -> 2
            add(2, -1, 0, 300) -> 3
            worth(1, -1, 0) -> 120
            sync(0, 1) -> 1
            worth(1, -1, 0) -> 121
            sync(0, 1) -> 0
            worth(1, -1, 0) -> 121
            sync(2, 1) -> 1
            sync(1, 0) -> 2
            worth(0, -1, 0) -> 421
            worth(1, -1, 0) -> 421
            """);
    }

    private static void addGoesToTheWinnerAlone() {
        new Run("an add goes to the winner alone").then("""
            put(0, -1, 0, 0, 1) -> 0
            put(1, -1, 0, 0, 2) -> 1
            add(0, -1, 0, 10) -> 2
            sync(0, 1) -> 2
            worth(1, -1, 0) -> 2
            add(1, -1, 0, 20) -> 3
            worth(1, -1, 0) -> 22
            operation(3, 7) -> 1
            put(2, -1, 0, 0, 7) -> 4
            give(3, 2) -> 0
            worth(2, -1, 0) -> 7
            give(1, 2) -> 2
            worth(2, -1, 0) -> 7
            value(2, -1, 0, 1) -> 1
            """);
    }

    private static void wrongInputs() {
        new Run("wrong inputs").then("""
            put(0, -1, 0, 2, 0) -> 0
            put(0, -1, 1, 1, 0) -> 1
            insert(0, 0, 0, 1, 0) -> 2
            add(-1, -1, 0, 1) -> IllegalArgumentException
            add(6, 9, 99, 1) -> IllegalArgumentException
            add(0, 9, 99, 1) -> NoSuchElementException
            add(0, -2, 0, 1) -> NoSuchElementException
            add(1, 0, 0, 1) -> NoSuchElementException
            add(0, -1, 2, 1) -> IndexOutOfBoundsException
            add(0, -1, 16, 1) -> IndexOutOfBoundsException
            add(0, -1, -1, 1) -> IndexOutOfBoundsException
            add(0, 0, 1, 1) -> IndexOutOfBoundsException
            add(0, -1, 0, 1) -> UnsupportedOperationException
            add(0, -1, 1, 1) -> UnsupportedOperationException
            add(0, 0, 0, 1) -> UnsupportedOperationException
            count(0, 0) -> 3
            """);
    }

    private static void threeHundred() {
        Run run = new Run("three hundred").then("put(0, -1, 0, 0, 0) -> 0\n put(0, -1, 1, 1, 0) -> 1");
        for (int i = 2; i < 300; i++) {
            run.then("add(0, -1, 0, 1) -> " + i);
        }
        run.then("""
            add(0, -1, 0, 1) -> IndexOutOfBoundsException
            add(0, -1, 1, 1) -> UnsupportedOperationException
            add(0, -1, 2, 1) -> IndexOutOfBoundsException
            add(0, 0, 0, 1) -> NoSuchElementException
            worth(0, -1, 0) -> 298
            """);
    }
}
