/** Promise 5: drop. */
public final class Promise05DropTest {
    public static void main(String[] args) {
        dropsOfKeys();
        dropsOfElements();
        dropOverwritesOnlyWhatIsSeen();
        noReplica();
        objectIsNotKnown();
        keyIsNotThere();
        keyBeyond0To15();
        elementIsNotThere();
        thereAre300();
        Run.end();
    }

    private static void dropsOfKeys() {
        new Run("drops of keys").then("""
            put(0, -1, 0, 0, 1) -> 0
            put(0, -1, 15, 0, 2) -> 1
            drop(0, -1, 15) -> 2
            size(0, -1) -> 1
            look(0, -1, 15, 0) -> IndexOutOfBoundsException
            operation(2, 0) -> 3
            operation(2, 3) -> -1
            operation(2, 4) -> 15
            operation(2, 5) -> -1
            operation(2, 6) -> 1
            operation(2, 7) -> -1
            operation(2, 8) -> 1
            drop(0, -1, 15) -> IndexOutOfBoundsException
            put(0, -1, 15, 0, 3) -> 3
            operation(3, 6) -> 0
            worth(0, -1, 15) -> 3
            """);
    }

    private static void dropsOfElements() {
        new Run("drops of elements").then("""
            put(0, -1, 0, 2, 0) -> 0
            insert(0, 0, 0, 0, 1) -> 1
            insert(0, 0, 1, 0, 2) -> 2
            insert(0, 0, 2, 0, 3) -> 3
            drop(0, 0, 1) -> 4
            operation(4, 4) -> 2
            operation(4, 8) -> 2
            drop(0, 0, 1) -> 5
            operation(5, 4) -> 3
            drop(0, 0, 1) -> IndexOutOfBoundsException
            drop(0, 0, 0) -> 6
            size(0, 0) -> 0
            insert(0, 0, 0, 0, 4) -> 7
            size(0, 0) -> 1
            """);
    }

    private static void dropOverwritesOnlyWhatIsSeen() {
        new Run("a drop overwrites what is live for its replica alone").then("""
            put(0, -1, 2, 0, 1) -> 0
            put(1, -1, 2, 0, 2) -> 1
            put(2, -1, 2, 0, 3) -> 2
            sync(0, 1) -> 1
            drop(1, -1, 2) -> 3
            operation(3, 6) -> 2
            operation(3, 8) -> 2
            sync(2, 1) -> 1
            size(1, -1) -> 1
            worth(1, -1, 2) -> 3
            sync(1, 0) -> 3
            worth(0, -1, 2) -> 3
            look(0, -1, 2, 2) -> 1
            """);
    }

    private static void noReplica() {
        new Run("IllegalArgumentException: replica")
            .then("put(5, -1, 0, 0, 1) -> 0\n sync(5, 0) -> 1\n drop(0, -1, 0) -> 1")
            .then("drop(5, -1, 0) -> 2\n put(0, -1, 0, 0, 1) -> 3")
            .refuses("IllegalArgumentException", """
                drop(-1, -1, 0)
                drop(6, -1, 0)
                drop(MIN, -1, 0)
                drop(MAX, -1, 0)
                drop(6, 9, 99)
                """);
    }

    private static void objectIsNotKnown() {
        new Run("the OBJECT is not known")
            .then("put(0, -1, 0, 2, 0) -> 0\n insert(0, 0, 0, 0, 0) -> 1")
            .then("add(0, 0, 0, 1) -> 2\n put(0, -1, 1, 0, 1) -> 3")
            .then("put(1, -1, 0, 2, 0) -> 4\n insert(1, 4, 0, 2, 0) -> 5\n give(5, 0) -> 0\n drop(0, -1, 1) -> 6")
            .refuses("NoSuchElementException", """
                drop(0, -2, 0)
                drop(0, 1, 0)
                drop(0, 2, 0)
                drop(0, 3, 0)
                drop(0, 4, 0)
                drop(0, 5, 0)
                drop(0, 6, 0)
                drop(0, 7, 0)
                drop(0, 300, 0)
                drop(0, MIN, 0)
                drop(0, MAX, 0)
                drop(1, 0, 0)
                drop(1, 0, 99)
                """)
            .then("drop(0, 0, 0) -> 7\n drop(0, -1, 0) -> 8");
    }

    private static void keyIsNotThere() {
        new Run("a key is not THERE")
            .then("put(0, -1, 0, 1, 0) -> 0\n put(0, 0, 5, 0, 1) -> 1\n put(0, -1, 15, 0, 1) -> 2")
            .refuses("IndexOutOfBoundsException", """
                drop(0, -1, 5)
                drop(0, 0, 0)
                drop(0, 0, 15)
                drop(1, -1, 0)
                """)
            .then("drop(0, -1, 15) -> 3")
            .refuses("IndexOutOfBoundsException", "drop(0, -1, 15)")
            .then("drop(0, -1, 0) -> 4\n drop(0, 0, 5) -> 5\n size(0, -1) -> 0");
    }

    private static void keyBeyond0To15() {
        new Run("a key beyond 0..15, too")
            .then("put(0, -1, 0, 0, 1) -> 0\n put(0, -1, 15, 0, 1) -> 1")
            .refuses("IndexOutOfBoundsException", """
                drop(0, -1, -1)
                drop(0, -1, 16)
                drop(0, -1, MIN)
                drop(0, -1, MAX)
                """)
            .refuses("NoSuchElementException", "drop(0, 9, 16)")
            .then("drop(0, -1, 15) -> 2\n drop(0, -1, 0) -> 3");
    }

    private static void elementIsNotThere() {
        new Run("the element at an index is not THERE")
            .then("put(0, -1, 0, 2, 0) -> 0")
            .refuses("IndexOutOfBoundsException", "drop(0, 0, 0)\n drop(0, 0, -1)")
            .then("insert(0, 0, 0, 0, 1) -> 1\n insert(0, 0, 1, 0, 2) -> 2")
            .refuses("IndexOutOfBoundsException", """
                drop(0, 0, -1)
                drop(0, 0, 2)
                drop(0, 0, MIN)
                drop(0, 0, MAX)
                """)
            .then("drop(0, 0, 1) -> 3")
            .refuses("IndexOutOfBoundsException", "drop(0, 0, 1)")
            .then("drop(0, 0, 0) -> 4")
            .refuses("IndexOutOfBoundsException", "drop(0, 0, 0)");
    }

    private static void thereAre300() {
        new Run("or there are 300")
            .each(0, 300, "put(0, -1, 3, 0, #) -> #")
            .refuses("IndexOutOfBoundsException", "drop(0, -1, 3)\n drop(0, -1, 4)")
            .refuses("NoSuchElementException", "drop(0, 5, 3)\n drop(0, 300, 3)")
            .refuses("IllegalArgumentException", "drop(6, -1, 3)")
            .then("size(0, -1) -> 1\n worth(0, -1, 3) -> 299");
    }
}
