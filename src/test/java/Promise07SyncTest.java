/** Promise 7: sync. */
public final class Promise07SyncTest {
    public static void main(String[] args) {
        syncsBothWays();
        whatWaitsIsNotSynced();
        syncFreesWhatWaits();
        noReplicas();
        fromHoldsNothing();
        nothingNew();
        withItself();
        notWhatWaitsThere();
        howManyMoreWithWhatWaitedAtTo();
        allThreeHundred();
        Run.end();
    }

    private static void syncsBothWays() {
        new Run("syncs both ways").then("""
            put(0, -1, 0, 0, 1) -> 0
            put(0, -1, 1, 0, 2) -> 1
            put(1, -1, 2, 0, 3) -> 2
            sync(0, 1) -> 2
            sync(0, 1) -> 0
            sync(1, 0) -> 1
            sync(0, 0) -> 0
            count(1, 0) -> 3
            count(1, 1) -> 3
            same(0, 1) -> true
            sync(2, 0) -> 0
            count(1, 2) -> 0
            """);
    }

    private static void whatWaitsIsNotSynced() {
        new Run("what waits is not synced").then("""
            put(0, -1, 0, 1, 0) -> 0
            put(0, 0, 0, 0, 1) -> 1
            put(0, -1, 1, 0, 2) -> 2
            give(1, 1) -> 0
            give(2, 1) -> 1
            sync(1, 2) -> 1
            count(1, 2) -> 1
            count(2, 2) -> 0
            count(2, 1) -> 1
            sync(1, 1) -> 0
            count(2, 1) -> 1
            """);
    }

    private static void syncFreesWhatWaits() {
        new Run("a sync frees what waits, and counts it").then("""
            put(0, -1, 0, 1, 0) -> 0
            sync(0, 1) -> 1
            put(0, 0, 0, 0, 1) -> 1
            put(0, 0, 0, 0, 2) -> 2
            give(1, 2) -> 0
            give(2, 2) -> 0
            count(2, 2) -> 2
            sync(1, 2) -> 3
            count(2, 2) -> 0
            count(1, 2) -> 3
            worth(2, 0, 0) -> 2
            count(3, 2) -> 3
            give(2, 3) -> 0
            sync(0, 3) -> 3
            count(2, 3) -> 0
            """);
    }

    private static void noReplicas() {
        new Run("IllegalArgumentException: there are none")
            .then("put(0, -1, 0, 0, 1) -> 0\n put(5, -1, 1, 0, 1) -> 1")
            .refuses("IllegalArgumentException", """
                sync(-1, 0)
                sync(0, -1)
                sync(6, 0)
                sync(0, 6)
                sync(MIN, 0)
                sync(0, MIN)
                sync(MAX, 0)
                sync(0, MAX)
                sync(6, 6)
                sync(-1, 6)
                """)
            .then("sync(0, 5) -> 1\n sync(5, 0) -> 1");
    }

    private static void fromHoldsNothing() {
        new Run("from holds nothing").then("""
            sync(0, 1) -> 0
            put(1, -1, 0, 0, 1) -> 0
            sync(0, 1) -> 0
            count(1, 1) -> 1
            count(1, 0) -> 0
            """);
    }

    private static void nothingNew() {
        new Run("to holds all that from holds: none more").then("""
            put(0, -1, 0, 0, 1) -> 0
            add(0, -1, 0, 10) -> 1
            sync(0, 1) -> 2
            sync(0, 1) -> 0
            sync(1, 0) -> 0
            worth(0, -1, 0) -> 11
            worth(1, -1, 0) -> 11
            count(1, 1) -> 2
            count(2, 1) -> 0
            """);
    }

    private static void withItself() {
        new Run("from and to are one REPLICA: none more").then("""
            put(0, -1, 0, 1, 0) -> 0
            put(0, 0, 0, 0, 1) -> 1
            add(0, 0, 0, 10) -> 2
            sync(0, 0) -> 0
            worth(0, 0, 0) -> 11
            give(1, 1) -> 0
            sync(1, 1) -> 0
            count(1, 1) -> 0
            count(2, 1) -> 1
            """);
    }

    private static void notWhatWaitsThere() {
        new Run("not what WAITS there: neither held nor waiting at to").then("""
            put(0, -1, 0, 1, 0) -> 0
            put(0, 0, 0, 0, 1) -> 1
            put(0, -1, 1, 0, 1) -> 2
            give(1, 1) -> 0
            give(2, 1) -> 1
            sync(1, 2) -> 1
            count(1, 2) -> 1
            count(2, 2) -> 0
            give(0, 2) -> 1
            count(1, 2) -> 2
            size(2, 0) -> 0
            count(2, 1) -> 1
            """);
    }

    private static void howManyMoreWithWhatWaitedAtTo() {
        new Run("how many more it holds then, with what WAITED at to").then("""
            put(0, -1, 0, 1, 0) -> 0
            sync(0, 1) -> 1
            put(0, 0, 0, 1, 0) -> 1
            put(0, 1, 0, 1, 0) -> 2
            put(0, 2, 0, 0, 7) -> 3
            give(3, 2) -> 0
            give(2, 2) -> 0
            give(1, 2) -> 0
            sync(1, 2) -> 4
            worth(2, 2, 0) -> 7
            count(2, 2) -> 0
            sync(2, 1) -> 3
            """);
    }

    private static void allThreeHundred() {
        new Run("all 300 at once")
            .each(0, 300, "put(0, -1, 0, 0, #) -> #")
            .then("sync(0, 5) -> 300\n count(1, 5) -> 300\n count(3, 5) -> 300")
            .then("sync(0, 5) -> 0\n worth(5, -1, 0) -> 299");
    }
}
