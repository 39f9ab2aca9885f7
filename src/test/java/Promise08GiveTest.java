/** Promise 8: give, and what WAITS for which CAUSES. */
public final class Promise08GiveTest {
    public static void main(String[] args) {
        givesInOrder();
        waitsForItsObject();
        waitsForWhatItStandsBehind();
        waitsForItsElement();
        waitsForWhatItOverwrites();
        waitsForWhatItGoesTo();
        earlierOfTheSameReplicaIsNoCause();
        backwards();
        noReplica();
        noSuchOperation();
        noSuchOperationWhenThereAre300();
        noneMoreForOneThatWaits();
        noneMoreForOneThatIsHeld();
        overwrittenOnesCanBeGiven();
        Run.end();
    }

    private static void givesInOrder() {
        new Run("gives in order").then("""
            put(0, -1, 0, 1, 0) -> 0
            put(0, 0, 0, 0, 1) -> 1
            give(0, 0) -> 0
            give(0, 5) -> 1
            give(0, 5) -> 0
            give(1, 5) -> 1
            count(1, 5) -> 2
            same(0, 5) -> true
            """);
    }

    private static void waitsForItsObject() {
        new Run("waits for its object").then("""
            put(0, -1, 0, 1, 0) -> 0
            put(0, 0, 5, 0, 1) -> 1
            give(1, 1) -> 0
            give(1, 1) -> 0
            count(1, 1) -> 0
            count(2, 1) -> 1
            count(3, 1) -> 0
            put(1, -1, 9, 0, 0) -> 2
            operation(2, 1) -> 1
            count(2, 1) -> 1
            give(0, 1) -> 2
            count(2, 1) -> 0
            count(3, 1) -> 2
            worth(1, 0, 5) -> 1
            """);
    }

    private static void waitsForWhatItStandsBehind() {
        new Run("waits for what it stands behind").then("""
            put(0, -1, 0, 2, 0) -> 0
            insert(0, 0, 0, 0, 1) -> 1
            insert(0, 0, 1, 0, 2) -> 2
            give(0, 1) -> 1
            give(2, 1) -> 0
            size(1, 0) -> 0
            give(1, 1) -> 2
            size(1, 0) -> 2
            """);
    }

    private static void waitsForItsElement() {
        new Run("waits for its element").then("""
            put(0, -1, 0, 2, 0) -> 0
            insert(0, 0, 0, 0, 1) -> 1
            set(0, 0, 0, 0, 2) -> 2
            set(0, 0, 0, 0, 3) -> 3
            drop(0, 0, 0) -> 4
            give(0, 1) -> 1
            give(4, 1) -> 0
            give(3, 1) -> 0
            give(2, 1) -> 0
            count(2, 1) -> 3
            give(1, 1) -> 4
            count(2, 1) -> 0
            size(1, 0) -> 0
            """);
    }

    private static void waitsForWhatItOverwrites() {
        new Run("waits for all that it overwrites").then("""
            put(0, -1, 0, 0, 1) -> 0
            put(1, -1, 0, 0, 2) -> 1
            sync(1, 0) -> 1
            drop(0, -1, 0) -> 2
            give(2, 2) -> 0
            give(0, 2) -> 1
            worth(2, -1, 0) -> 1
            count(2, 2) -> 1
            give(1, 2) -> 2
            size(2, -1) -> 0
            """);
    }

    private static void waitsForWhatItGoesTo() {
        new Run("waits for what it goes to").then("""
            put(0, -1, 0, 0, 1) -> 0
            put(0, -1, 0, 0, 2) -> 1
            add(0, -1, 0, 5) -> 2
            give(2, 1) -> 0
            give(0, 1) -> 1
            worth(1, -1, 0) -> 1
            give(1, 1) -> 2
            worth(1, -1, 0) -> 7
            """);
    }

    private static void earlierOfTheSameReplicaIsNoCause() {
        new Run("an earlier one of the same replica is no cause").then("""
            put(0, -1, 0, 0, 1) -> 0
            put(0, -1, 1, 0, 2) -> 1
            give(1, 1) -> 1
            count(3, 1) -> 2
            count(2, 1) -> 0
            size(1, -1) -> 1
            put(1, -1, 1, 0, 3) -> 2
            operation(2, 1) -> 3
            """);
    }

    private static void backwards() {
        Run run = new Run("a long chain that comes backwards").then("put(0, -1, 0, 1, 0) -> 0");
        for (int i = 1; i < 120; i++) {
            run.then("put(0, " + (i - 1) + ", 0, 1, 0) -> " + i);
        }
        for (int i = 119; i > 0; i--) {
            run.then("give(" + i + ", 3) -> 0");
        }
        run.then("count(2, 3) -> 119\n give(0, 3) -> 120\n count(2, 3) -> 0\n same(0, 3) -> true");
    }

    private static void noReplica() {
        new Run("IllegalArgumentException: to")
            .then("put(0, -1, 0, 0, 1) -> 0")
            .refuses("IllegalArgumentException", """
                give(0, -1)
                give(0, 6)
                give(0, MIN)
                give(0, MAX)
                give(9, 6)
                give(-1, -1)
                """)
            .then("give(0, 0) -> 0\n give(0, 5) -> 1");
    }

    private static void noSuchOperation() {
        new Run("IndexOutOfBoundsException: there is no such OPERATION")
            .refuses("IndexOutOfBoundsException", "give(0, 0)\n give(-1, 0)")
            .then("put(0, -1, 0, 0, 1) -> 0")
            .refuses("IndexOutOfBoundsException", """
                give(-1, 1)
                give(1, 1)
                give(299, 1)
                give(300, 1)
                give(MIN, 1)
                give(MAX, 1)
                """)
            .then("put(0, -1, 0, 0, 1) -> 1\n give(1, 1) -> 0\n give(0, 1) -> 2");
    }

    private static void noSuchOperationWhenThereAre300() {
        new Run("there is no such OPERATION when there are 300")
            .each(0, 300, "put(0, -1, 0, 0, #) -> #")
            .refuses("IndexOutOfBoundsException", "give(300, 1)\n give(301, 1)\n give(-1, 1)")
            .then("give(299, 1) -> 0\n count(2, 1) -> 1\n give(0, 1) -> 1\n count(2, 1) -> 1");
    }

    private static void noneMoreForOneThatWaits() {
        new Run("how many more it holds: none for one that WAITS").then("""
            put(0, -1, 0, 1, 0) -> 0
            put(0, 0, 0, 0, 1) -> 1
            give(1, 1) -> 0
            count(1, 1) -> 0
            count(2, 1) -> 1
            """);
    }

    private static void noneMoreForOneThatIsHeld() {
        new Run("how many more it holds: none for one that is held").then("""
            put(0, -1, 0, 0, 1) -> 0
            give(0, 0) -> 0
            give(0, 1) -> 1
            give(0, 1) -> 0
            count(1, 1) -> 1
            count(2, 1) -> 0
            """);
    }

    private static void overwrittenOnesCanBeGiven() {
        new Run("an OPERATION that is OVERWRITTEN everywhere can be given").then("""
            put(0, -1, 0, 0, 1) -> 0
            drop(0, -1, 0) -> 1
            size(0, -1) -> 0
            give(0, 1) -> 1
            worth(1, -1, 0) -> 1
            give(1, 1) -> 1
            size(1, -1) -> 0
            """);
    }
}
