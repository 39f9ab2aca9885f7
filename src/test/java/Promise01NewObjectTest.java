/** Promise 1: a new object has no OPERATIONS. */
public final class Promise01NewObjectTest {
    public static void main(String[] args) {
        nothingIsThere();
        objectsShareNothing();
        noOperations();
        nothingButTheRoot();
        allReplicasAreTheSame();
        Run.end();
    }

    private static void nothingIsThere() {
        Run run = new Run("nothing is there");
        for (int r = 0; r < 6; r++) {
            run.then("count(0, R) -> 0\n count(1, R) -> 0\n count(2, R) -> 0\n count(3, R) -> 0\n count(4, R) -> 1\n"
                    .replace("R", "" + r));
            run.then("size(R, -1) -> 0\n same(0, R) -> true\n sync(R, 1) -> 0".replace("R", "" + r));
            run.then("look(R, -1, 0, 0) -> IndexOutOfBoundsException".replace("R", "" + r));
            run.then("size(R, 0) -> NoSuchElementException".replace("R", "" + r));
        }
        run.then("""
            operation(0, 0) -> IndexOutOfBoundsException
            give(0, 0) -> IndexOutOfBoundsException
            """);
    }

    private static void objectsShareNothing() {
        new Run("the first object").then("put(0, -1, 0, 1, 0) -> 0\n count(0, 0) -> 1");
        new Run("the second object").then("count(0, 0) -> 0\n size(0, -1) -> 0\n size(0, 0) -> NoSuchElementException");
    }

    private static void noOperations() {
        new Run("no OPERATIONS")
            .each(0, 6, "count(0, #) -> 0\n count(1, #) -> 0\n count(2, #) -> 0\n count(3, #) -> 0")
            .refuses("IndexOutOfBoundsException", """
                operation(0, 0)
                operation(-1, 0)
                operation(299, 8)
                give(0, 0)
                give(-1, 0)
                """)
            .then("put(5, -1, 0, 0, 1) -> 0\n count(0, 0) -> 1");
    }

    private static void nothingButTheRoot() {
        new Run("no OBJECTS but the ROOT, and nothing in it")
            .each(0, 6, "count(4, #) -> 1\n size(#, -1) -> 0")
            .each(0, 16, "look(0, -1, #, 3) -> IndexOutOfBoundsException")
            .refuses("NoSuchElementException", """
                size(0, 0)
                size(0, -2)
                put(0, 0, 0, 0, 1)
                insert(0, -1, 0, 0, 1)
                set(0, 0, 0, 0, 1)
                """)
            .refuses("IndexOutOfBoundsException", """
                drop(0, -1, 0)
                add(0, -1, 0, 1)
                worth(0, -1, 0)
                value(0, -1, 0, 0)
                """);
    }

    private static void allReplicasAreTheSame() {
        new Run("all REPLICAS of a new object show the same")
            .each(0, 6, "same(0, #) -> true\n same(#, 5) -> true\n sync(0, #) -> 0\n sync(#, 5) -> 0");
    }
}
