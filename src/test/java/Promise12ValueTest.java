/** Promise 12: value; the first one is number 0. */
public final class Promise12ValueTest {
    public static void main(String[] args) {
        valuesOfAKey();
        valuesOfAnElement();
        noReplica();
        objectIsNotKnown();
        keyIsNotThere();
        elementIsNotThere();
        thereIsNoN();
        onlyLiveOnes();
        asManyAsThereCanBe();
        Run.end();
    }

    private static void valuesOfAKey() {
        new Run("values of a key, by count and then by replica").then("""
            put(3, -1, 9, 0, 0) -> 0
            put(3, -1, 2, 0, 1) -> 1
            put(4, -1, 2, 0, 2) -> 2
            put(0, -1, 9, 0, 0) -> 3
            put(0, -1, 2, 0, 3) -> 4
            put(5, -1, 2, 0, 4) -> 5
            sync(3, 1) -> 2
            sync(4, 1) -> 1
            sync(5, 1) -> 1
            sync(0, 1) -> 2
            look(1, -1, 2, 2) -> 4
            value(1, -1, 2, 0) -> 1
            value(1, -1, 2, 1) -> 4
            value(1, -1, 2, 2) -> 5
            value(1, -1, 2, 3) -> 2
            value(1, -1, 2, 4) -> IndexOutOfBoundsException
            value(0, -1, 2, 0) -> 4
            value(0, -1, 2, 1) -> IndexOutOfBoundsException
            """);
    }

    private static void valuesOfAnElement() {
        new Run("values of an element, its insert among them").then("""
            put(0, -1, 0, 2, 0) -> 0
            insert(0, 0, 0, 0, 1) -> 1
            value(0, 0, 0, 0) -> 1
            sync(0, 1) -> 2
            set(0, 0, 0, 0, 2) -> 2
            set(1, 0, 0, 1, 3) -> 3
            sync(0, 1) -> 1
            value(1, 0, 0, 0) -> 3
            value(1, 0, 0, 1) -> 2
            value(1, 0, 0, 2) -> IndexOutOfBoundsException
            drop(0, 0, 0) -> 4
            sync(0, 1) -> 1
            value(1, 0, 0, 0) -> 3
            value(1, 0, 0, 1) -> IndexOutOfBoundsException
            """);
    }

    private static void noReplica() {
        new Run("likewise: replica")
            .then("put(5, -1, 0, 0, 4) -> 0\n sync(5, 0) -> 1\n value(0, -1, 0, 0) -> 0\n value(5, -1, 0, 0) -> 0")
            .refuses("IllegalArgumentException", """
                value(-1, -1, 0, 0)
                value(6, -1, 0, 0)
                value(MIN, -1, 0, 0)
                value(MAX, -1, 0, 0)
                value(6, 9, 99, 9)
                """);
    }

    private static void objectIsNotKnown() {
        new Run("likewise: the OBJECT is not known")
            .then("put(0, -1, 0, 2, 0) -> 0\n insert(0, 0, 0, 0, 0) -> 1")
            .then("add(0, 0, 0, 1) -> 2\n put(0, -1, 1, 0, 1) -> 3")
            .then("put(1, -1, 0, 2, 0) -> 4\n insert(1, 4, 0, 2, 0) -> 5\n give(5, 0) -> 0\n drop(0, -1, 1) -> 6")
            .refuses("NoSuchElementException", """
                value(0, -2, 0, 0)
                value(0, 1, 0, 0)
                value(0, 2, 0, 0)
                value(0, 3, 0, 0)
                value(0, 4, 0, 0)
                value(0, 5, 0, 0)
                value(0, 6, 0, 0)
                value(0, 7, 0, 0)
                value(0, 300, 0, 0)
                value(0, MIN, 0, 0)
                value(0, MAX, 0, 0)
                value(1, 0, 0, 0)
                value(1, 0, 99, -1)
                """);
    }

    private static void keyIsNotThere() {
        new Run("likewise: a key is not THERE")
            .then("put(0, -1, 0, 0, 1) -> 0\n put(0, -1, 15, 0, 1) -> 1")
            .then("put(0, -1, 7, 1, 1) -> 2\n drop(0, -1, 7) -> 3")
            .refuses("IndexOutOfBoundsException", """
                value(0, -1, 1, 0)
                value(0, -1, 7, 0)
                value(0, -1, -1, 0)
                value(0, -1, 16, 0)
                value(0, -1, MIN, 0)
                value(0, -1, MAX, 0)
                value(1, -1, 0, 0)
                """)
            .then("value(0, -1, 0, 0) -> 0\n value(0, -1, 15, 0) -> 1");
    }

    private static void elementIsNotThere() {
        new Run("likewise: the element at an index is not THERE")
            .then("put(0, -1, 0, 2, 0) -> 0")
            .refuses("IndexOutOfBoundsException", "value(0, 0, 0, 0)\n value(0, 0, -1, 0)")
            .then("insert(0, 0, 0, 0, 1) -> 1\n insert(0, 0, 1, 0, 2) -> 2\n drop(0, 0, 0) -> 3")
            .refuses("IndexOutOfBoundsException", """
                value(0, 0, -1, 0)
                value(0, 0, 1, 0)
                value(0, 0, MIN, 0)
                value(0, 0, MAX, 0)
                """)
            .then("value(0, 0, 0, 0) -> 2");
    }

    private static void thereIsNoN() {
        new Run("IndexOutOfBoundsException: or there is no n")
            .then("put(0, -1, 0, 0, 1) -> 0\n value(0, -1, 0, 0) -> 0")
            .refuses("IndexOutOfBoundsException", """
                value(0, -1, 0, -1)
                value(0, -1, 0, 1)
                value(0, -1, 0, MIN)
                value(0, -1, 0, MAX)
                """)
            .then("put(1, -1, 0, 0, 2) -> 1\n sync(1, 0) -> 1\n value(0, -1, 0, 0) -> 1\n value(0, -1, 0, 1) -> 0")
            .refuses("IndexOutOfBoundsException", """
                value(0, -1, 0, -1)
                value(0, -1, 0, 2)
                """);
    }

    private static void onlyLiveOnes() {
        new Run("there is no n for a VALUE that is OVERWRITTEN, WAITS, or is not held")
            .then("put(0, -1, 0, 0, 1) -> 0\n put(0, -1, 0, 0, 2) -> 1\n put(1, -1, 0, 0, 3) -> 2\n give(1, 1) -> 0")
            .refuses("IndexOutOfBoundsException", "value(0, -1, 0, 1)\n value(1, -1, 0, 1)")
            .then("value(0, -1, 0, 0) -> 1\n value(1, -1, 0, 0) -> 2");
    }

    private static void asManyAsThereCanBe() {
        Run run = new Run("as many LIVE VALUES as there can be");
        for (int i = 0; i < 150; i++) {
            run.then("put(0, -1, 0, 0, 1) -> " + 2 * i + "\n drop(0, -1, 0) -> " + (2 * i + 1));
            run.then("give(" + 2 * i + ", 1) -> 1");
        }
        run.then("look(1, -1, 0, 2) -> 150\n value(1, -1, 0, 0) -> 298\n value(1, -1, 0, 149) -> 0")
            .refuses("IndexOutOfBoundsException", "value(1, -1, 0, 150)");
    }
}
