/** Promise 14: same. */
public final class Promise14SameTest {
    public static void main(String[] args) {
        sameByOtherOperations();
        otherKeys();
        otherKindsAndWorths();
        otherElements();
        differsDeepInside();
        onlyWinnersAreLookedAt();
        veryDeep();
        noReplicas();
        emptyOnes();
        oneMoreAtTheEnd();
        worthsWrap();
        numbersOfOperationsDoNotMatter();
        whatWaitsIsNotShown();
        Run.end();
    }

    private static void sameByOtherOperations() {
        new Run("the same by other operations").then("""
            same(0, 1) -> true
            put(0, -1, 3, 0, 4) -> 0
            add(0, -1, 3, 1) -> 1
            same(0, 1) -> false
            same(1, 0) -> false
            same(0, 0) -> true
            put(1, -1, 3, 0, 5) -> 2
            same(0, 1) -> true
            put(0, -1, 4, 2, 0) -> 3
            insert(0, 3, 0, 0, 1) -> 4
            insert(0, 3, 0, 0, 2) -> 5
            put(1, -1, 4, 2, 0) -> 6
            insert(1, 6, 0, 0, 2) -> 7
            insert(1, 6, 1, 0, 1) -> 8
            same(0, 1) -> true
            same(1, 2) -> false
            same(2, 3) -> true
            """);
    }

    private static void otherKeys() {
        new Run("other keys").then("""
            put(0, -1, 3, 0, 1) -> 0
            put(1, -1, 4, 0, 1) -> 1
            same(0, 1) -> false
            put(1, -1, 3, 0, 1) -> 2
            same(0, 1) -> false
            same(1, 0) -> false
            drop(1, -1, 4) -> 3
            same(0, 1) -> true
            """);
    }

    private static void otherKindsAndWorths() {
        new Run("other kinds and worths").then("""
            put(0, -1, 0, 0, 0) -> 0
            put(1, -1, 0, 1, 0) -> 1
            put(2, -1, 0, 2, 0) -> 2
            put(3, -1, 0, 0, 4294967296) -> 3
            same(0, 1) -> false
            same(1, 2) -> false
            same(0, 2) -> false
            same(0, 3) -> false
            """);
    }

    private static void otherElements() {
        new Run("other elements").then("""
            put(0, -1, 0, 2, 0) -> 0
            sync(0, 1) -> 1
            insert(0, 0, 0, 0, 1) -> 1
            same(0, 1) -> false
            same(1, 0) -> false
            insert(1, 0, 0, 0, 1) -> 2
            same(0, 1) -> true
            insert(0, 0, 1, 0, 2) -> 3
            same(0, 1) -> false
            insert(1, 0, 0, 0, 2) -> 4
            same(0, 1) -> false
            drop(0, 0, 0) -> 5
            drop(1, 0, 1) -> 6
            same(0, 1) -> true
            """);
    }

    private static void differsDeepInside() {
        new Run("differs deep inside").then("""
            put(0, -1, 0, 1, 0) -> 0
            put(0, 0, 0, 2, 0) -> 1
            insert(0, 1, 0, 1, 0) -> 2
            put(0, 2, 7, 0, 1) -> 3
            sync(0, 1) -> 4
            same(0, 1) -> true
            add(1, 2, 7, 1) -> 4
            same(0, 1) -> false
            add(0, 2, 7, 1) -> 5
            same(0, 1) -> true
            put(0, 0, 1, 1, 0) -> 6
            same(0, 1) -> false
            put(1, 0, 1, 1, 0) -> 7
            same(0, 1) -> true
            put(1, 7, 1, 1, 0) -> 8
            same(0, 1) -> false
            """);
    }

    private static void onlyWinnersAreLookedAt() {
        new Run("only winners are looked at").then("""
            put(0, -1, 0, 0, 1) -> 0
            put(1, -1, 0, 0, 2) -> 1
            sync(1, 2) -> 1
            sync(0, 2) -> 1
            look(2, -1, 0, 2) -> 2
            same(1, 2) -> true
            same(0, 2) -> false
            """);
    }

    private static void veryDeep() {
        Run run = new Run("as deep as can be").then("put(0, -1, 5, 1, 0) -> 0");
        for (int i = 1; i < 299; i++) {
            run.then("put(0, " + (i - 1) + ", 5, 1, 0) -> " + i);
        }
        run.then("""
            sync(0, 1) -> 299
            same(0, 1) -> true
            count(4, 1) -> 300
            put(1, 298, 5, 1, 0) -> 299
            same(0, 1) -> false
            count(4, 1) -> 301
            sync(1, 0) -> 1
            same(0, 1) -> true
            """);
    }

    private static void noReplicas() {
        new Run("IllegalArgumentException: there are none")
            .then("put(0, -1, 0, 0, 1) -> 0")
            .refuses("IllegalArgumentException", """
                same(-1, 0)
                same(0, -1)
                same(6, 0)
                same(0, 6)
                same(MIN, 0)
                same(0, MIN)
                same(MAX, 0)
                same(0, MAX)
                same(6, 6)
                same(-1, -1)
                """)
            .then("same(0, 5) -> false\n same(5, 0) -> false\n same(5, 5) -> true");
    }

    private static void emptyOnes() {
        new Run("nothing to show").then("""
            same(0, 5) -> true
            put(0, -1, 0, 0, 1) -> 0
            drop(0, -1, 0) -> 1
            same(0, 5) -> true
            put(0, -1, 0, 1, 0) -> 2
            put(1, -1, 0, 2, 0) -> 3
            same(0, 1) -> false
            same(0, 5) -> false
            put(2, -1, 0, 2, 0) -> 4
            same(1, 2) -> true
            insert(2, 4, 0, 0, 1) -> 5
            same(1, 2) -> false
            same(2, 1) -> false
            drop(2, 4, 0) -> 6
            same(1, 2) -> true
            """);
    }

    private static void oneMoreAtTheEnd() {
        new Run("as many elements, and the same keys").then("""
            put(0, -1, 0, 2, 0) -> 0
            insert(0, 0, 0, 0, 1) -> 1
            sync(0, 1) -> 2
            insert(1, 0, 1, 0, 2) -> 2
            same(0, 1) -> false
            same(1, 0) -> false
            drop(1, 0, 1) -> 3
            same(0, 1) -> true
            put(1, -1, 15, 0, 2) -> 4
            same(0, 1) -> false
            same(1, 0) -> false
            put(0, -1, 14, 0, 2) -> 5
            same(0, 1) -> false
            """);
    }

    private static void worthsWrap() {
        new Run("NUMBERS that are worth the same by wrapping").then("""
            put(0, -1, 0, 0, MAX) -> 0
            put(1, -1, 0, 0, MIN) -> 1
            same(0, 1) -> false
            add(0, -1, 0, 1) -> 2
            same(0, 1) -> true
            add(1, -1, 0, MIN) -> 3
            same(0, 1) -> false
            put(2, -1, 0, 0, 0) -> 4
            same(1, 2) -> true
            """);
    }

    private static void numbersOfOperationsDoNotMatter() {
        new Run("whatever the numbers of OPERATIONS are").then("""
            put(0, -1, 0, 2, 0) -> 0
            insert(0, 0, 0, 1, 0) -> 1
            put(0, 1, 3, 0, 5) -> 2
            put(1, -1, 9, 0, 0) -> 3
            drop(1, -1, 9) -> 4
            put(1, -1, 0, 2, 0) -> 5
            insert(1, 5, 0, 0, 0) -> 6
            set(1, 5, 0, 1, 0) -> 7
            put(1, 7, 3, 0, 2) -> 8
            same(0, 1) -> false
            add(1, 7, 3, 3) -> 9
            same(0, 1) -> true
            """);
    }

    private static void whatWaitsIsNotShown() {
        new Run("what WAITS, and what is held but not shown, does not matter").then("""
            put(0, -1, 0, 1, 0) -> 0
            put(0, 0, 0, 0, 1) -> 1
            drop(0, -1, 0) -> 2
            give(1, 1) -> 0
            same(0, 1) -> true
            give(0, 1) -> 2
            same(0, 1) -> false
            give(2, 1) -> 1
            same(0, 1) -> true
            put(0, 0, 1, 0, 9) -> 3
            same(0, 1) -> true
            """);
    }
}
