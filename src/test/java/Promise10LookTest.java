/** Promise 10: look. */
public final class Promise10LookTest {
    public static void main(String[] args) {
        looksAtKeys();
        looksAtElements();
        looksAtSeveralLiveValues();
        noReplica();
        noWhat();
        objectIsNotKnown();
        keyIsNotThere();
        elementIsNotThere();
        lastOfAFullList();
        Run.end();
    }

    private static void looksAtKeys() {
        new Run("looks at keys").then("""
            put(0, -1, 15, 0, 4) -> 0
            put(0, -1, 8, 1, 4) -> 1
            put(0, -1, 0, 2, 4) -> 2
            look(0, -1, 15, 0) -> 0
            look(0, -1, 8, 0) -> 1
            look(0, -1, 0, 0) -> 2
            look(0, -1, 15, 1) -> 0
            look(0, -1, 8, 1) -> 1
            look(0, -1, 0, 1) -> 2
            look(0, -1, 8, 2) -> 1
            look(0, -1, 15, 3) -> 15
            look(0, -1, 8, 3) -> 8
            look(0, -1, 0, 3) -> 0
            """);
    }

    private static void looksAtElements() {
        new Run("looks at elements").then("""
            put(0, -1, 0, 2, 0) -> 0
            insert(0, 0, 0, 0, 1) -> 1
            insert(0, 0, 0, 2, 1) -> 2
            set(0, 0, 1, 1, 0) -> 3
            look(0, 0, 0, 0) -> 2
            look(0, 0, 0, 1) -> 2
            look(0, 0, 0, 3) -> 2
            look(0, 0, 1, 0) -> 1
            look(0, 0, 1, 1) -> 3
            look(0, 0, 1, 2) -> 1
            look(0, 0, 1, 3) -> 1
            """);
    }

    private static void looksAtSeveralLiveValues() {
        new Run("looks at several live values").then("""
            put(0, -1, 3, 2, 0) -> 0
            put(1, -1, 3, 0, 0) -> 1
            put(2, -1, 3, 1, 0) -> 2
            sync(0, 3) -> 1
            look(3, -1, 3, 0) -> 2
            sync(2, 3) -> 1
            look(3, -1, 3, 0) -> 1
            sync(1, 3) -> 1
            look(3, -1, 3, 0) -> 1
            look(3, -1, 3, 1) -> 2
            look(3, -1, 3, 2) -> 3
            look(3, -1, 3, 3) -> 3
            """);
    }

    private static void noReplica() {
        new Run("IllegalArgumentException: replica")
            .then("put(5, -1, 0, 0, 1) -> 0\n sync(5, 0) -> 1\n look(0, -1, 0, 1) -> 0\n look(5, -1, 0, 1) -> 0")
            .refuses("IllegalArgumentException", """
                look(-1, -1, 0, 0)
                look(6, -1, 0, 0)
                look(MIN, -1, 0, 0)
                look(MAX, -1, 0, 0)
                look(6, 9, 99, 9)
                """);
    }

    private static void noWhat() {
        new Run("IllegalArgumentException: what")
            .then("put(0, -1, 7, 0, 1) -> 0\n look(0, -1, 7, 0) -> 0\n look(0, -1, 7, 3) -> 7")
            .refuses("IllegalArgumentException", """
                look(0, -1, 7, -1)
                look(0, -1, 7, 4)
                look(0, -1, 7, MIN)
                look(0, -1, 7, MAX)
                look(0, 9, 7, 4)
                look(0, -1, 16, 4)
                """);
    }

    private static void objectIsNotKnown() {
        new Run("NoSuchElementException likewise")
            .then("put(0, -1, 0, 2, 0) -> 0\n insert(0, 0, 0, 0, 0) -> 1")
            .then("add(0, 0, 0, 1) -> 2\n put(0, -1, 1, 0, 1) -> 3")
            .then("put(1, -1, 0, 2, 0) -> 4\n insert(1, 4, 0, 2, 0) -> 5\n give(5, 0) -> 0\n drop(0, -1, 1) -> 6")
            .refuses("NoSuchElementException", """
                look(0, -2, 0, 0)
                look(0, 1, 0, 0)
                look(0, 2, 0, 0)
                look(0, 3, 0, 0)
                look(0, 4, 0, 0)
                look(0, 5, 0, 0)
                look(0, 6, 0, 0)
                look(0, 7, 0, 0)
                look(0, 300, 0, 0)
                look(0, MIN, 0, 0)
                look(0, MAX, 0, 0)
                look(1, 0, 0, 0)
                look(1, 0, 99, 0)
                """);
    }

    private static void keyIsNotThere() {
        new Run("IndexOutOfBoundsException: a key is not THERE")
            .then("put(0, -1, 0, 0, 1) -> 0\n put(0, -1, 15, 0, 1) -> 1")
            .then("put(0, -1, 7, 0, 1) -> 2\n drop(0, -1, 7) -> 3")
            .refuses("IndexOutOfBoundsException", """
                look(0, -1, 1, 0)
                look(0, -1, 7, 0)
                look(0, -1, 7, 1)
                look(0, -1, 7, 2)
                look(0, -1, 7, 3)
                look(0, -1, -1, 3)
                look(0, -1, 16, 3)
                look(0, -1, MIN, 3)
                look(0, -1, MAX, 3)
                look(1, -1, 0, 0)
                """)
            .then("look(0, -1, 0, 3) -> 0\n look(0, -1, 15, 3) -> 15");
    }

    private static void elementIsNotThere() {
        new Run("IndexOutOfBoundsException: the element at an index is not THERE")
            .then("put(0, -1, 0, 2, 0) -> 0")
            .refuses("IndexOutOfBoundsException", "look(0, 0, 0, 0)\n look(0, 0, -1, 3)")
            .then("insert(0, 0, 0, 0, 1) -> 1\n insert(0, 0, 1, 0, 2) -> 2\n drop(0, 0, 0) -> 3")
            .refuses("IndexOutOfBoundsException", """
                look(0, 0, -1, 3)
                look(0, 0, 1, 0)
                look(0, 0, 1, 1)
                look(0, 0, 1, 2)
                look(0, 0, 1, 3)
                look(0, 0, MIN, 3)
                look(0, 0, MAX, 3)
                """)
            .then("look(0, 0, 0, 3) -> 2");
    }

    private static void lastOfAFullList() {
        new Run("the last element of a list as long as can be")
            .then("put(0, -1, 0, 2, 0) -> 0")
            .each(1, 300, "insert(0, 0, 0, 0, #) -> #")
            .then("look(0, 0, 0, 3) -> 299\n look(0, 0, 298, 3) -> 1")
            .then("look(0, 0, 299, 3) -> IndexOutOfBoundsException");
    }
}
