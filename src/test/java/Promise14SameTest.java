/** Promise 14: same. */
public final class Promise14SameTest {
    public static void main(String[] args) {
        sameByOtherOperations();
        otherKeys();
        otherKindsAndWorths();
        otherElements();
        differsDeepInside();
        onlyWinnersAreLookedAt();
        veryDeep();
        wrongInputs();
        Run.end();
    }

    private static void sameByOtherOperations() {
        new Run("the same by other operations").then("""
            same(0, 1) -> true
            put(0, -1, 3, 0, 4) -> 0
            add(0, -1, 3, 1) -> 1
            same(0, 1) -> false
            same(1, 0) -> false
            same(0, 0) -> true
            put(1, -1, 3, 0, 5) -> 2
            same(0, 1) -> true
            put(0, -1, 4, 2, 0) -> 3
            insert(0, 3, 0, 0, 1) -> 4
            insert(0, 3, 0, 0, 2) -> 5
            put(1, -1, 4, 2, 0) -> 6
            insert(1, 6, 0, 0, 2) -> 7
            insert(1, 6, 1, 0, 1) -> 8
            same(0, 1) -> true
            same(1, 2) -> false
            same(2, 3) -> true
            """);
    }

    private static void otherKeys() {
        new Run("other keys").then("""
            put(0, -1, 3, 0, 1) -> 0
            put(1, -1, 4, 0, 1) -> 1
            same(0, 1) -> false
            put(1, -1, 3, 0, 1) -> 2
            same(0, 1) -> false
            same(1, 0) -> false
            drop(1, -1, 4) -> 3
            same(0, 1) -> true
            """);
    }

    private static void otherKindsAndWorths() {
        new Run("other kinds and worths").then("""
            put(0, -1, 0, 0, 0) -> 0
            put(1, -1, 0, 1, 0) -> 1
            put(2, -1, 0, 2, 0) -> 2
            put(3, -1, 0, 0, 4294967296) -> 3
            same(0, 1) -> false
            same(1, 2) -> false
            same(0, 2) -> false
            same(0, 3) -> false
            """);
    }

    private static void otherElements() {
        new Run("other elements").then("""
            put(0, -1, 0, 2, 0) -> 0
            sync(0, 1) -> 1
            insert(0, 0, 0, 0, 1) -> 1
            same(0, 1) -> false
            same(1, 0) -> false
            insert(1, 0, 0, 0, 1) -> 2
            same(0, 1) -> true
            insert(0, 0, 1, 0, 2) -> 3
            same(0, 1) -> false
            insert(1, 0, 0, 0, 2) -> 4
            same(0, 1) -> false
            drop(0, 0, 0) -> 5
            drop(1, 0, 1) -> 6
            same(0, 1) -> true
            """);
    }

    private static void differsDeepInside() {
        new Run("differs deep inside").then("""
            put(0, -1, 0, 1, 0) -> 0
            put(0, 0, 0, 2, 0) -> 1
            insert(0, 1, 0, 1, 0) -> 2
            put(0, 2, 7, 0, 1) -> 3
            sync(0, 1) -> 4
            same(0, 1) -> true
            add(1, 2, 7, 1) -> 4
            same(0, 1) -> false
            add(0, 2, 7, 1) -> 5
            same(0, 1) -> true
            put(0, 0, 1, 1, 0) -> 6
            same(0, 1) -> false
            put(1, 0, 1, 1, 0) -> 7
            same(0, 1) -> true
            put(1, 7, 1, 1, 0) -> 8
            same(0, 1) -> false
            """);
    }

    private static void onlyWinnersAreLookedAt() {
        new Run("only winners are looked at").then("""
            put(0, -1, 0, 0, 1) -> 0
            put(1, -1, 0, 0, 2) -> 1
            sync(1, 2) -> 1
            sync(0, 2) -> 1
            look(2, -1, 0, 2) -> 2
            same(1, 2) -> true
            same(0, 2) -> false
            """);
    }

    private static void veryDeep() {
        Run run = new Run("as deep as can be").then("put(0, -1, 5, 1, 0) -> 0");
        for (int i = 1; i < 299; i++) {
            run.then("put(0, " + (i - 1) + ", 5, 1, 0) -> " + i);
        }
        run.then("""
            sync(0, 1) -> 299
            same(0, 1) -> true
            count(4, 1) -> 300
            put(1, 298, 5, 1, 0) -> 299
            same(0, 1) -> false
            count(4, 1) -> 301
            sync(1, 0) -> 1
            same(0, 1) -> true
            """);
    }

    private static void wrongInputs() {
        new Run("wrong inputs").then("""
            same(-1, 0) -> IllegalArgumentException
            same(0, -1) -> IllegalArgumentException
            same(6, 0) -> IllegalArgumentException
            same(0, 6) -> IllegalArgumentException
            same(6, 6) -> IllegalArgumentException
            same(0, 5) -> true
            """);
    }
}
