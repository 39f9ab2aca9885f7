/** Promise 4: set. */
public final class Promise04SetTest {
    public static void main(String[] args) {
        setsOneAfterAnother();
        setsAtTheSameTime();
        setMakesObjects();
        setAgainstDrop();
        noReplica();
        noKind();
        vIsLookedAtForNumberAlone();
        objectIsNotKnown();
        objectIsNoList();
        thereIsNone();
        droppedOnesAreNone();
        thereAre300();
        Run.end();
    }

    private static void setsOneAfterAnother() {
        new Run("sets one after another").then("""
            put(0, -1, 0, 2, 0) -> 0
            insert(0, 0, 0, 0, 1) -> 1
            insert(0, 0, 1, 0, 2) -> 2
            set(0, 0, 1, 0, 3) -> 3
            set(0, 0, 1, 0, 4) -> 4
            worth(0, 0, 0) -> 1
            worth(0, 0, 1) -> 4
            size(0, 0) -> 2
            look(0, 0, 1, 1) -> 4
            look(0, 0, 1, 2) -> 1
            look(0, 0, 1, 3) -> 2
            operation(3, 0) -> 2
            operation(3, 3) -> 0
            operation(3, 4) -> 2
            operation(3, 6) -> 1
            operation(3, 8) -> 2
            operation(4, 8) -> 3
            """);
    }

    private static void setsAtTheSameTime() {
        new Run("sets at the same time").then("""
            put(0, -1, 0, 2, 0) -> 0
            insert(0, 0, 0, 0, 1) -> 1
            sync(0, 1) -> 2
            sync(0, 2) -> 2
            set(2, 0, 0, 0, 20) -> 2
            set(1, 0, 0, 0, 10) -> 3
            sync(1, 2) -> 1
            worth(2, 0, 0) -> 20
            look(2, 0, 0, 2) -> 2
            value(2, 0, 0, 1) -> 3
            set(2, 0, 0, 0, 30) -> 4
            operation(4, 6) -> 2
            operation(4, 8) -> 4
            look(2, 0, 0, 2) -> 1
            """);
    }

    private static void setMakesObjects() {
        new Run("a set makes objects; v is not looked at").then("""
            put(0, -1, 0, 2, 0) -> 0
            insert(0, 0, 0, 0, 1) -> 1
            set(0, 0, 0, 1, 99) -> 2
            put(0, 2, 3, 0, 5) -> 3
            worth(0, 2, 3) -> 5
            set(0, 0, 0, 2, 99) -> 4
            insert(0, 4, 0, 0, 6) -> 5
            look(0, 0, 0, 0) -> 2
            count(4, 0) -> 3
            worth(0, 2, 3) -> 5
            """);
    }

    private static void setAgainstDrop() {
        new Run("a set brings back what another one drops").then("""
            put(0, -1, 0, 2, 0) -> 0
            insert(0, 0, 0, 0, 1) -> 1
            insert(0, 0, 1, 0, 2) -> 2
            sync(0, 1) -> 3
            drop(0, 0, 0) -> 3
            size(0, 0) -> 1
            set(0, 0, 0, 0, 22) -> 4
            operation(4, 4) -> 2
            set(1, 0, 0, 0, 11) -> 5
            sync(1, 0) -> 1
            size(0, 0) -> 2
            worth(0, 0, 0) -> 11
            worth(0, 0, 1) -> 22
            """);
    }

    private static void noReplica() {
        new Run("likewise: replica")
            .then("put(5, -1, 0, 2, 0) -> 0\n insert(5, 0, 0, 0, 1) -> 1\n sync(5, 0) -> 2")
            .then("set(0, 0, 0, 0, 1) -> 2\n set(5, 0, 0, 0, 1) -> 3")
            .refuses("IllegalArgumentException", """
                set(-1, 0, 0, 0, 1)
                set(6, 0, 0, 0, 1)
                set(MIN, 0, 0, 0, 1)
                set(MAX, 0, 0, 0, 1)
                set(6, 9, 9, 9, 1)
                """);
    }

    private static void noKind() {
        new Run("likewise: kind")
            .then("put(0, -1, 0, 2, 0) -> 0\n insert(0, 0, 0, 0, 1) -> 1")
            .then("set(0, 0, 0, 0, 1) -> 2\n set(0, 0, 0, 2, 1) -> 3")
            .refuses("IllegalArgumentException", """
                set(0, 0, 0, -1, 1)
                set(0, 0, 0, 3, 1)
                set(0, 0, 0, MIN, 1)
                set(0, 0, 0, MAX, 1)
                set(0, 9, 0, 3, 1)
                set(0, 0, 9, 3, 1)
                """);
    }

    private static void vIsLookedAtForNumberAlone() {
        new Run("v is looked at for NUMBER alone").then("""
            put(0, -1, 0, 2, 0) -> 0
            insert(0, 0, 0, 0, 0) -> 1
            sync(0, 1) -> 2
            set(0, 0, 0, 2, MIN) -> 2
            set(1, 0, 0, 2, MAX) -> 3
            same(0, 1) -> true
            set(0, 0, 0, 0, MAX) -> 4
            worth(0, 0, 0) -> 9223372036854775807
            """);
    }

    private static void objectIsNotKnown() {
        new Run("likewise: the OBJECT is not known")
            .then("put(0, -1, 0, 2, 0) -> 0\n insert(0, 0, 0, 0, 0) -> 1")
            .then("add(0, 0, 0, 1) -> 2\n put(0, -1, 1, 0, 1) -> 3")
            .then("put(1, -1, 0, 2, 0) -> 4\n insert(1, 4, 0, 2, 0) -> 5\n give(5, 0) -> 0\n drop(0, -1, 1) -> 6")
            .refuses("NoSuchElementException", """
                set(0, -2, 0, 0, 1)
                set(0, 1, 0, 0, 1)
                set(0, 2, 0, 0, 1)
                set(0, 3, 0, 0, 1)
                set(0, 4, 0, 0, 1)
                set(0, 5, 0, 0, 1)
                set(0, 6, 0, 0, 1)
                set(0, 7, 0, 0, 1)
                set(0, 300, 0, 0, 1)
                set(0, MIN, 0, 0, 1)
                set(0, MAX, 0, 0, 1)
                set(1, 0, 0, 0, 1)
                set(1, 0, 9, 0, 1)
                """);
    }

    private static void objectIsNoList() {
        new Run("likewise: no list")
            .then("put(0, -1, 0, 1, 0) -> 0\n put(0, 0, 0, 2, 0) -> 1\n insert(0, 1, 0, 1, 0) -> 2")
            .refuses("NoSuchElementException", """
                set(0, -1, 0, 0, 1)
                set(0, -1, 9, 0, 1)
                set(0, 0, 0, 0, 1)
                set(0, 2, 0, 0, 1)
                """);
    }

    private static void thereIsNone() {
        new Run("there is none at the index")
            .then("put(0, -1, 0, 2, 0) -> 0")
            .refuses("IndexOutOfBoundsException", "set(0, 0, 0, 0, 1)\n set(0, 0, -1, 0, 1)")
            .then("insert(0, 0, 0, 0, 1) -> 1\n insert(0, 0, 1, 0, 2) -> 2")
            .refuses("IndexOutOfBoundsException", """
                set(0, 0, -1, 0, 1)
                set(0, 0, 2, 0, 1)
                set(0, 0, MIN, 0, 1)
                set(0, 0, MAX, 0, 1)
                """)
            .then("set(0, 0, 1, 0, 22) -> 3\n set(0, 0, 0, 0, 11) -> 4\n worth(0, 0, 0) -> 11\n worth(0, 0, 1) -> 22");
    }

    private static void droppedOnesAreNone() {
        new Run("one that is not THERE is none")
            .then("put(0, -1, 0, 2, 0) -> 0\n insert(0, 0, 0, 0, 1) -> 1")
            .then("insert(0, 0, 1, 0, 2) -> 2\n drop(0, 0, 0) -> 3")
            .refuses("IndexOutOfBoundsException", "set(0, 0, 1, 0, 1)")
            .then("set(0, 0, 0, 0, 22) -> 4\n operation(4, 4) -> 2\n drop(0, 0, 0) -> 5")
            .refuses("IndexOutOfBoundsException", "set(0, 0, 0, 0, 1)");
    }

    private static void thereAre300() {
        new Run("or there are 300")
            .then("put(0, -1, 0, 2, 0) -> 0\n insert(0, 0, 0, 0, 1) -> 1")
            .each(2, 300, "set(0, 0, 0, 0, #) -> #")
            .refuses("IndexOutOfBoundsException", "set(0, 0, 0, 0, 1)\n set(0, 0, 1, 0, 1)")
            .refuses("NoSuchElementException", "set(0, -1, 0, 0, 1)\n set(1, 0, 0, 0, 1)")
            .refuses("IllegalArgumentException", "set(0, 0, 0, 3, 1)\n set(6, 0, 0, 0, 1)")
            .then("worth(0, 0, 0) -> 299\n look(0, 0, 0, 2) -> 1");
    }
}
