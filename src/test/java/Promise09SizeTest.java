/** Promise 9: size. */
public final class Promise09SizeTest {
    public static void main(String[] args) {
        sizes();
        allKeys();
        noReplica();
        objectIsNotKnown();
        emptyOnes();
        fullOnes();
        severalLiveValuesAreOnePlace();
        Run.end();
    }

    private static void sizes() {
        new Run("sizes").then("""
            size(0, -1) -> 0
            put(0, -1, 0, 1, 0) -> 0
            put(0, -1, 1, 2, 0) -> 1
            put(0, -1, 1, 2, 0) -> 2
            size(0, -1) -> 2
            size(0, 0) -> 0
            size(0, 1) -> 0
            insert(0, 1, 0, 0, 1) -> 3
            insert(0, 1, 0, 0, 1) -> 4
            size(0, 1) -> 2
            size(0, 2) -> 0
            drop(0, 1, 0) -> 5
            size(0, 1) -> 1
            set(0, 1, 0, 0, 7) -> 6
            size(0, 1) -> 1
            drop(0, -1, 1) -> 7
            size(0, -1) -> 1
            size(0, 1) -> 1
            size(1, -1) -> 0
            """);
    }

    private static void allKeys() {
        Run run = new Run("all keys");
        for (int key = 15; key >= 0; key--) {
            run.then("put(0, -1, " + key + ", 0, 1) -> " + (15 - key) + "\n size(0, -1) -> " + (16 - key));
        }
    }

    private static void noReplica() {
        new Run("IllegalArgumentException: replica")
            .refuses("IllegalArgumentException", """
                size(-1, -1)
                size(6, -1)
                size(MIN, -1)
                size(MAX, -1)
                size(6, 99)
                """)
            .then("size(0, -1) -> 0\n size(5, -1) -> 0");
    }

    private static void objectIsNotKnown() {
        new Run("NoSuchElementException: the OBJECT is not known")
            .then("put(0, -1, 0, 1, 0) -> 0\n put(0, -1, 1, 0, 0) -> 1\n add(0, -1, 1, 0) -> 2\n drop(0, -1, 0) -> 3")
            .then("put(1, -1, 0, 2, 0) -> 4\n insert(1, 4, 0, 2, 0) -> 5\n give(5, 0) -> 0")
            .refuses("NoSuchElementException", """
                size(0, -2)
                size(0, 1)
                size(0, 2)
                size(0, 3)
                size(0, 4)
                size(0, 5)
                size(0, 6)
                size(0, 300)
                size(0, MIN)
                size(0, MAX)
                size(1, 0)
                """)
            .then("size(0, 0) -> 0\n size(1, 4) -> 1\n size(1, 5) -> 0");
    }

    private static void emptyOnes() {
        new Run("nothing is THERE: 0").then("""
            size(0, -1) -> 0
            put(0, -1, 0, 1, 0) -> 0
            put(0, -1, 1, 2, 0) -> 1
            size(0, 0) -> 0
            size(0, 1) -> 0
            put(0, 0, 0, 0, 1) -> 2
            insert(0, 1, 0, 0, 1) -> 3
            drop(0, 0, 0) -> 4
            drop(0, 1, 0) -> 5
            size(0, 0) -> 0
            size(0, 1) -> 0
            """);
    }

    private static void fullOnes() {
        new Run("all 16 keys of a map")
            .then("put(0, -1, 0, 1, 0) -> 0")
            .each(0, 16, "put(0, 0, #, 0, 1) -> #+")
            .then("size(0, 0) -> 16\n put(0, 0, 15, 0, 2) -> 17\n size(0, 0) -> 16")
            .then("drop(0, 0, 15) -> 18\n size(0, 0) -> 15");
        new Run("as many elements as there can be")
            .then("put(0, -1, 0, 2, 0) -> 0")
            .each(1, 300, "insert(0, 0, 0, 0, 1) -> #")
            .then("size(0, 0) -> 299");
    }

    private static void severalLiveValuesAreOnePlace() {
        new Run("a PLACE with several LIVE VALUES is one").then("""
            put(0, -1, 0, 0, 1) -> 0
            put(1, -1, 0, 0, 2) -> 1
            sync(1, 0) -> 1
            look(0, -1, 0, 2) -> 2
            size(0, -1) -> 1
            """);
    }
}
