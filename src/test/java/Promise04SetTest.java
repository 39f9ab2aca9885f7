/** Promise 4: set. */
public final class Promise04SetTest {
    public static void main(String[] args) {
        setsOneAfterAnother();
        setsAtTheSameTime();
        setMakesObjects();
        setAgainstDrop();
        wrongInputs();
        threeHundred();
        Run.end();
    }

    private static void setsOneAfterAnother() {
        new Run("sets one after another").then("""
            put(0, -1, 0, 2, 0) -> 0
            insert(0, 0, 0, 0, 1) -> 1
            insert(0, 0, 1, 0, 2) -> 2
            set(0, 0, 1, 0, 3) -> 3
            set(0, 0, 1, 0, 4) -> 4
            worth(0, 0, 0) -> 1
            worth(0, 0, 1) -> 4
            size(0, 0) -> 2
            look(0, 0, 1, 1) -> 4
            look(0, 0, 1, 2) -> 1
            look(0, 0, 1, 3) -> 2
            operation(3, 0) -> 2
            operation(3, 3) -> 0
            operation(3, 4) -> 2
            operation(3, 6) -> 1
            operation(3, 8) -> 2
            operation(4, 8) -> 3
            """);
    }

    private static void setsAtTheSameTime() {
        new Run("sets at the same time").then("""
            put(0, -1, 0, 2, 0) -> 0
            insert(0, 0, 0, 0, 1) -> 1
            sync(0, 1) -> 2
            sync(0, 2) -> 2
            set(2, 0, 0, 0, 20) -> 2
            set(1, 0, 0, 0, 10) -> 3
            sync(1, 2) -> 1
            worth(2, 0, 0) -> 20
            look(2, 0, 0, 2) -> 2
            value(2, 0, 0, 1) -> 3
            set(2, 0, 0, 0, 30) -> 4
            operation(4, 6) -> 2
            operation(4, 8) -> 4
            look(2, 0, 0, 2) -> 1
            """);
    }

    private static void setMakesObjects() {
        new Run("a set makes objects; v is not looked at").then("""
            put(0, -1, 0, 2, 0) -> 0
            insert(0, 0, 0, 0, 1) -> 1
            set(0, 0, 0, 1, 99) -> 2
            put(0, 2, 3, 0, 5) -> 3
            worth(0, 2, 3) -> 5
            set(0, 0, 0, 2, 99) -> 4
            insert(0, 4, 0, 0, 6) -> 5
            look(0, 0, 0, 0) -> 2
            count(4, 0) -> 3
            worth(0, 2, 3) -> 5
            """);
    }

    private static void setAgainstDrop() {
        new Run("a set brings back what another one drops").then("""
            put(0, -1, 0, 2, 0) -> 0
            insert(0, 0, 0, 0, 1) -> 1
            insert(0, 0, 1, 0, 2) -> 2
            sync(0, 1) -> 3
            drop(0, 0, 0) -> 3
            size(0, 0) -> 1
            set(0, 0, 0, 0, 22) -> 4
            operation(4, 4) -> 2
            set(1, 0, 0, 0, 11) -> 5
            sync(1, 0) -> 1
            size(0, 0) -> 2
            worth(0, 0, 0) -> 11
            worth(0, 0, 1) -> 22
            """);
    }

    private static void wrongInputs() {
        new Run("wrong inputs").then("""
            put(0, -1, 0, 2, 0) -> 0
            insert(0, 0, 0, 0, 1) -> 1
            set(-1, 0, 0, 0, 1) -> IllegalArgumentException
            set(6, 9, 9, 9, 1) -> IllegalArgumentException
            set(0, 0, 0, 3, 1) -> IllegalArgumentException
            set(0, 9, 9, -1, 1) -> IllegalArgumentException
            set(0, -1, 0, 0, 1) -> NoSuchElementException
            set(0, 1, 0, 0, 1) -> NoSuchElementException
            set(0, 7, 9, 0, 1) -> NoSuchElementException
            set(1, 0, 0, 0, 1) -> NoSuchElementException
            set(0, 0, -1, 0, 1) -> IndexOutOfBoundsException
            set(0, 0, 1, 0, 1) -> IndexOutOfBoundsException
            set(0, 0, -2147483648, 0, 1) -> IndexOutOfBoundsException
            drop(0, 0, 0) -> 2
            set(0, 0, 0, 0, 1) -> IndexOutOfBoundsException
            count(0, 0) -> 3
            """);
    }

    private static void threeHundred() {
        Run run = new Run("three hundred").then("put(0, -1, 0, 2, 0) -> 0\n insert(0, 0, 0, 0, 1) -> 1");
        for (int i = 2; i < 300; i++) {
            run.then("set(0, 0, 0, 0, " + i + ") -> " + i);
        }
        run.then("""
            set(0, 0, 0, 0, 1) -> IndexOutOfBoundsException
            set(0, -1, 0, 0, 1) -> NoSuchElementException
            worth(0, 0, 0) -> 299
            look(0, 0, 0, 2) -> 1
            """);
    }
}
