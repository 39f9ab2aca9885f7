/** Promise 7: sync. */
public final class Promise07SyncTest {
    public static void main(String[] args) {
        syncsBothWays();
        whatWaitsIsNotSynced();
        syncFreesWhatWaits();
        wrongInputs();
        Run.end();
    }

    private static void syncsBothWays() {
        new Run("syncs both ways").then("""
            put(0, -1, 0, 0, 1) -> 0
            put(0, -1, 1, 0, 2) -> 1
            put(1, -1, 2, 0, 3) -> 2
            sync(0, 1) -> 2
            sync(0, 1) -> 0
            sync(1, 0) -> 1
            sync(0, 0) -> 0
            count(1, 0) -> 3
            count(1, 1) -> 3
            same(0, 1) -> true
            sync(2, 0) -> 0
            count(1, 2) -> 0
            """);
    }

    private static void whatWaitsIsNotSynced() {
        new Run("what waits is not synced").then("""
            put(0, -1, 0, 1, 0) -> 0
            put(0, 0, 0, 0, 1) -> 1
            put(0, -1, 1, 0, 2) -> 2
            give(1, 1) -> 0
            give(2, 1) -> 1
            sync(1, 2) -> 1
            count(1, 2) -> 1
            count(2, 2) -> 0
            count(2, 1) -> 1
            sync(1, 1) -> 0
            count(2, 1) -> 1
            """);
    }

    private static void syncFreesWhatWaits() {
        new Run("a sync frees what waits, and counts it").then("""
            put(0, -1, 0, 1, 0) -> 0
            sync(0, 1) -> 1
            put(0, 0, 0, 0, 1) -> 1
            put(0, 0, 0, 0, 2) -> 2
            give(1, 2) -> 0
            give(2, 2) -> 0
            count(2, 2) -> 2
            sync(1, 2) -> 3
            count(2, 2) -> 0
            count(1, 2) -> 3
            worth(2, 0, 0) -> 2
            count(3, 2) -> 3
            give(2, 3) -> 0
            sync(0, 3) -> 3
            count(2, 3) -> 0
            """);
    }

    private static void wrongInputs() {
        new Run("wrong inputs").then("""
            put(0, -1, 0, 0, 1) -> 0
            sync(-1, 0) -> IllegalArgumentException
            sync(0, -1) -> IllegalArgumentException
            sync(6, 0) -> IllegalArgumentException
            sync(0, 6) -> IllegalArgumentException
            sync(7, 7) -> IllegalArgumentException
            count(1, 1) -> 0
            sync(0, 5) -> 1
            """);
    }
}
