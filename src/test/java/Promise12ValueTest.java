/** Promise 12: value; the first one is number 0. */
public final class Promise12ValueTest {
    public static void main(String[] args) {
        valuesOfAKey();
        valuesOfAnElement();
        wrongInputs();
        Run.end();
    }

    private static void valuesOfAKey() {
        new Run("values of a key, by count and then by replica").then("""
            put(3, -1, 9, 0, 0) -> 0
            put(3, -1, 2, 0, 1) -> 1
            put(4, -1, 2, 0, 2) -> 2
            put(0, -1, 9, 0, 0) -> 3
            put(0, -1, 2, 0, 3) -> 4
            put(5, -1, 2, 0, 4) -> 5
            sync(3, 1) -> 2
            sync(4, 1) -> 1
            sync(5, 1) -> 1
            sync(0, 1) -> 2
            look(1, -1, 2, 2) -> 4
            value(1, -1, 2, 0) -> 1
            value(1, -1, 2, 1) -> 4
            value(1, -1, 2, 2) -> 5
            value(1, -1, 2, 3) -> 2
            value(1, -1, 2, 4) -> IndexOutOfBoundsException
            value(0, -1, 2, 0) -> 4
            value(0, -1, 2, 1) -> IndexOutOfBoundsException
            """);
    }

    private static void valuesOfAnElement() {
        new Run("values of an element, its insert among them").then("""
            put(0, -1, 0, 2, 0) -> 0
            insert(0, 0, 0, 0, 1) -> 1
            value(0, 0, 0, 0) -> 1
            sync(0, 1) -> 2
            set(0, 0, 0, 0, 2) -> 2
            set(1, 0, 0, 1, 3) -> 3
            sync(0, 1) -> 1
            value(1, 0, 0, 0) -> 3
            value(1, 0, 0, 1) -> 2
            value(1, 0, 0, 2) -> IndexOutOfBoundsException
            drop(0, 0, 0) -> 4
            sync(0, 1) -> 1
            value(1, 0, 0, 0) -> 3
            value(1, 0, 0, 1) -> IndexOutOfBoundsException
            """);
    }

    private static void wrongInputs() {
        new Run("wrong inputs").then("""
            put(0, -1, 0, 2, 0) -> 0
            value(-1, -1, 0, 0) -> IllegalArgumentException
            value(6, 9, 9, 9) -> IllegalArgumentException
            value(0, 9, 9, 9) -> NoSuchElementException
            value(1, 0, 0, 0) -> NoSuchElementException
            value(0, -1, 1, 0) -> IndexOutOfBoundsException
            value(0, -1, 16, 0) -> IndexOutOfBoundsException
            value(0, 0, 0, 0) -> IndexOutOfBoundsException
            value(0, -1, 0, -1) -> IndexOutOfBoundsException
            value(0, -1, 0, 1) -> IndexOutOfBoundsException
            value(0, -1, 0, 2147483647) -> IndexOutOfBoundsException
            value(0, -1, 0, 0) -> 0
            """);
    }
}
