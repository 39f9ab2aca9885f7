/** Promise 5: drop. */
public final class Promise05DropTest {
    public static void main(String[] args) {
        dropsOfKeys();
        dropsOfElements();
        dropOverwritesOnlyWhatIsSeen();
        wrongInputs();
        threeHundred();
        Run.end();
    }

    private static void dropsOfKeys() {
        new Run("drops of keys").then("""
            put(0, -1, 0, 0, 1) -> 0
            put(0, -1, 15, 0, 2) -> 1
            drop(0, -1, 15) -> 2
            size(0, -1) -> 1
            look(0, -1, 15, 0) -> IndexOutOfBoundsException
            operation(2, 0) -> 3
            operation(2, 3) -> -1
            operation(2, 4) -> 15
            operation(2, 5) -> -1
            operation(2, 6) -> 1
            operation(2, 7) -> -1
            operation(2, 8) -> 1
            drop(0, -1, 15) -> IndexOutOfBoundsException
            put(0, -1, 15, 0, 3) -> 3
            operation(3, 6) -> 0
            worth(0, -1, 15) -> 3
            """);
    }

    private static void dropsOfElements() {
        new Run("drops of elements").then("""
            put(0, -1, 0, 2, 0) -> 0
            insert(0, 0, 0, 0, 1) -> 1
            insert(0, 0, 1, 0, 2) -> 2
            insert(0, 0, 2, 0, 3) -> 3
            drop(0, 0, 1) -> 4
            operation(4, 4) -> 2
            operation(4, 8) -> 2
            drop(0, 0, 1) -> 5
            operation(5, 4) -> 3
            drop(0, 0, 1) -> IndexOutOfBoundsException
            drop(0, 0, 0) -> 6
            size(0, 0) -> 0
            insert(0, 0, 0, 0, 4) -> 7
            size(0, 0) -> 1
            """);
    }

    private static void dropOverwritesOnlyWhatIsSeen() {
        new Run("a drop overwrites what is live for its replica alone").then("""
            put(0, -1, 2, 0, 1) -> 0
            put(1, -1, 2, 0, 2) -> 1
            put(2, -1, 2, 0, 3) -> 2
            sync(0, 1) -> 1
            drop(1, -1, 2) -> 3
            operation(3, 6) -> 2
            operation(3, 8) -> 2
            sync(2, 1) -> 1
            size(1, -1) -> 1
            worth(1, -1, 2) -> 3
            sync(1, 0) -> 3
            worth(0, -1, 2) -> 3
            look(0, -1, 2, 2) -> 1
            """);
    }

    private static void wrongInputs() {
        new Run("wrong inputs").then("""
            put(0, -1, 0, 2, 0) -> 0
            put(0, -1, 1, 0, 0) -> 1
            drop(-1, -1, 0) -> IllegalArgumentException
            drop(6, 9, 99) -> IllegalArgumentException
            drop(0, 1, 0) -> NoSuchElementException
            drop(0, 2, 99) -> NoSuchElementException
            drop(0, -2, 0) -> NoSuchElementException
            drop(1, 0, 0) -> NoSuchElementException
            drop(0, -1, -1) -> IndexOutOfBoundsException
            drop(0, -1, 16) -> IndexOutOfBoundsException
            drop(0, -1, 2) -> IndexOutOfBoundsException
            drop(0, -1, 2147483647) -> IndexOutOfBoundsException
            drop(0, 0, 0) -> IndexOutOfBoundsException
            drop(0, 0, -1) -> IndexOutOfBoundsException
            drop(1, -1, 0) -> IndexOutOfBoundsException
            count(0, 0) -> 2
            count(1, 1) -> 0
            """);
    }

    private static void threeHundred() {
        Run run = new Run("three hundred");
        for (int i = 0; i < 300; i++) {
            run.then("put(0, -1, 3, 0, 1) -> " + i);
        }
        run.then("""
            drop(0, -1, 3) -> IndexOutOfBoundsException
            drop(0, 5, 3) -> NoSuchElementException
            drop(6, -1, 3) -> IllegalArgumentException
            size(0, -1) -> 1
            """);
    }
}
