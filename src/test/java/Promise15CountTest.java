/** Promise 15: count. */
public final class Promise15CountTest {
    public static void main(String[] args) {
        heldAndWaiting();
        greatestCountStays();
        reachedFromTheRoot();
        wideDocument();
        noWhat();
        noReplica();
        noReplicaFor0();
        noneAtAll();
        theRootIsCounted();
        byWinnersAlone();
        full();
        Run.end();
    }

    private static void heldAndWaiting() {
        new Run("held and waiting").then("""
            put(0, -1, 0, 1, 0) -> 0
            put(0, 0, 0, 0, 0) -> 1
            drop(0, 0, 0) -> 2
            count(0, 0) -> 3
            count(0, 5) -> 3
            count(1, 0) -> 3
            count(1, 1) -> 0
            count(3, 0) -> 3
            count(3, 1) -> 0
            give(2, 1) -> 0
            give(1, 1) -> 0
            count(1, 1) -> 0
            count(2, 1) -> 2
            count(3, 1) -> 0
            give(0, 1) -> 3
            count(1, 1) -> 3
            count(2, 1) -> 0
            count(3, 1) -> 3
            """);
    }

    private static void greatestCountStays() {
        new Run("a lesser count that comes later changes nothing").then("""
            put(0, -1, 0, 0, 0) -> 0
            put(0, -1, 1, 0, 0) -> 1
            put(0, -1, 2, 0, 0) -> 2
            give(2, 1) -> 1
            give(0, 1) -> 1
            count(3, 1) -> 3
            put(1, -1, 3, 0, 0) -> 3
            operation(3, 1) -> 4
            """);
    }

    private static void reachedFromTheRoot() {
        new Run("reached from the root by winners").then("""
            count(4, 0) -> 1
            put(0, -1, 0, 1, 0) -> 0
            put(0, 0, 0, 2, 0) -> 1
            insert(0, 1, 0, 1, 0) -> 2
            insert(0, 1, 0, 0, 0) -> 3
            count(4, 0) -> 4
            count(4, 1) -> 1
            drop(0, 1, 1) -> 4
            count(4, 0) -> 3
            put(1, -1, 0, 2, 0) -> 5
            sync(0, 1) -> 5
            count(4, 1) -> 2
            put(0, -1, 1, 1, 0) -> 6
            put(0, -1, 1, 1, 0) -> 7
            count(4, 0) -> 4
            put(0, 6, 1, 1, 0) -> 8
            count(4, 0) -> 4
            put(0, -1, 0, 0, 0) -> 9
            count(4, 0) -> 2
            """);
    }

    private static void wideDocument() {
        Run run = new Run("a wide document").then("put(0, -1, 0, 2, 0) -> 0");
        for (int i = 1; i < 300; i++) {
            run.then("insert(0, 0, 0, " + (1 + i % 2) + ", 0) -> " + i);
        }
        run.then("count(4, 0) -> 301\n count(4, 0) -> 301\n sync(0, 1) -> 300\n same(0, 1) -> true\n count(3, 1) -> 300");
    }

    private static void noWhat() {
        new Run("IllegalArgumentException for others")
            .then("put(0, -1, 0, 0, 1) -> 0\n count(0, 0) -> 1\n count(4, 0) -> 1")
            .refuses("IllegalArgumentException", """
                count(-1, 0)
                count(5, 0)
                count(MIN, 0)
                count(MAX, 0)
                """);
    }

    private static void noReplica() {
        new Run("IllegalArgumentException: or r")
            .then("put(0, -1, 0, 0, 1) -> 0\n count(1, 0) -> 1\n count(1, 5) -> 0")
            .refuses("IllegalArgumentException", """
                count(1, -1)
                count(1, 6)
                count(2, -1)
                count(2, 6)
                count(3, -1)
                count(3, 6)
                count(4, -1)
                count(4, 6)
                count(1, MIN)
                count(4, MAX)
                count(5, 6)
                """);
    }

    private static void noReplicaFor0() {
        new Run("also for 0, which does not use it")
            .then("put(0, -1, 0, 0, 1) -> 0\n count(0, 0) -> 1\n count(0, 5) -> 1")
            .refuses("IllegalArgumentException", """
                count(0, -1)
                count(0, 6)
                count(0, MIN)
                count(0, MAX)
                """);
    }

    private static void noneAtAll() {
        new Run("its greatest count (0: none)").then("""
            count(3, 0) -> 0
            put(0, -1, 0, 1, 0) -> 0
            put(0, 0, 0, 0, 0) -> 1
            count(3, 0) -> 2
            count(3, 1) -> 0
            give(1, 1) -> 0
            count(3, 1) -> 0
            """);
    }

    private static void theRootIsCounted() {
        new Run("OBJECTS that can be come to, with the ROOT").then("""
            count(4, 0) -> 1
            put(0, -1, 0, 0, 0) -> 0
            count(4, 0) -> 1
            put(0, -1, 1, 1, 0) -> 1
            count(4, 0) -> 2
            put(0, -1, 2, 2, 0) -> 2
            count(4, 0) -> 3
            count(4, 1) -> 1
            drop(0, -1, 1) -> 3
            drop(0, -1, 2) -> 4
            count(4, 0) -> 1
            """);
    }

    private static void byWinnersAlone() {
        new Run("by WINNERS: an OBJECT that is LIVE but beaten is not come to").then("""
            put(0, -1, 0, 1, 0) -> 0
            put(0, 0, 0, 2, 0) -> 1
            put(1, -1, 3, 0, 0) -> 2
            put(1, -1, 3, 0, 0) -> 3
            put(1, -1, 0, 0, 0) -> 4
            sync(0, 1) -> 2
            look(1, -1, 0, 2) -> 2
            count(4, 1) -> 1
            count(4, 0) -> 3
            drop(1, -1, 0) -> 5
            count(4, 1) -> 1
            """);
    }

    private static void full() {
        new Run("300 that are held, or WAIT")
            .then("put(0, -1, 0, 0, 0) -> 0")
            .each(1, 300, "add(0, -1, 0, 1) -> #")
            .each(200, 300, "give(#, 1) -> 0")
            .then("count(0, 1) -> 300\n count(1, 0) -> 300\n count(2, 0) -> 0\n count(3, 0) -> 300")
            .then("count(1, 1) -> 0\n count(2, 1) -> 100\n count(3, 1) -> 0\n sync(0, 1) -> 300\n count(2, 1) -> 0");
    }
}
