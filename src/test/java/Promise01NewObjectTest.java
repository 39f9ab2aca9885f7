/** Promise 1: a new object has no OPERATIONS. */
public final class Promise01NewObjectTest {
    public static void main(String[] args) {
        nothingIsThere();
        objectsShareNothing();
        Run.end();
    }

    private static void nothingIsThere() {
        Run run = new Run("nothing is there");
        for (int r = 0; r < 6; r++) {
            run.then("count(0, R) -> 0\n count(1, R) -> 0\n count(2, R) -> 0\n count(3, R) -> 0\n count(4, R) -> 1\n"
                    .replace("R", "" + r));
            run.then("size(R, -1) -> 0\n same(0, R) -> true\n sync(R, 1) -> 0".replace("R", "" + r));
            run.then("look(R, -1, 0, 0) -> IndexOutOfBoundsException".replace("R", "" + r));
            run.then("size(R, 0) -> NoSuchElementException".replace("R", "" + r));
        }
        run.then("""
            operation(0, 0) -> IndexOutOfBoundsException
            give(0, 0) -> IndexOutOfBoundsException
            """);
    }

    private static void objectsShareNothing() {
        new Run("the first object").then("put(0, -1, 0, 1, 0) -> 0\n count(0, 0) -> 1");
        new Run("the second object").then("count(0, 0) -> 0\n size(0, -1) -> 0\n size(0, 0) -> NoSuchElementException");
    }
}
