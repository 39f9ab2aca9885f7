/** Promise 3: insert, and THE ORDER of a list. */
public final class Promise03InsertTest {
    public static void main(String[] args) {
        insertsOfOneReplica();
        runsOfTwoReplicasStayTogether();
        greatestStampComesFirst();
        insertBehindWhatIsDroppedElsewhere();
        lesserStampGoesBehindWholeBranches();
        indexPassesOverDropped();
        listsInsideLists();
        noReplica();
        noKind();
        vIsLookedAtForNumberAlone();
        objectIsNotKnown();
        objectIsNoList();
        indexBelow0();
        indexBeyondHowManyAreThere();
        indexBeyondWhenSomeAreNotThere();
        thereAre300();
        Run.end();
    }

    private static void insertsOfOneReplica() {
        new Run("inserts of one replica").then("""
            put(0, -1, 0, 2, 0) -> 0
            insert(0, 0, 0, 0, 10) -> 1
            insert(0, 0, 0, 0, 20) -> 2
            insert(0, 0, 1, 0, 30) -> 3
            insert(0, 0, 3, 0, 40) -> 4
            size(0, 0) -> 4
            worth(0, 0, 0) -> 20
            worth(0, 0, 1) -> 30
            worth(0, 0, 2) -> 10
            worth(0, 0, 3) -> 40
            operation(2, 4) -> -1
            operation(3, 4) -> 2
            operation(4, 4) -> 1
            operation(4, 0) -> 1
            look(0, 0, 2, 3) -> 1
            """);
    }

    private static void runsOfTwoReplicasStayTogether() {
        new Run("runs of two replicas stay together").then("""
            put(0, -1, 0, 2, 0) -> 0
            sync(0, 1) -> 1
            insert(0, 0, 0, 0, 1) -> 1
            insert(1, 0, 0, 0, 4) -> 2
            insert(0, 0, 1, 0, 2) -> 3
            insert(1, 0, 1, 0, 5) -> 4
            insert(0, 0, 2, 0, 3) -> 5
            sync(0, 1) -> 3
            sync(1, 0) -> 2
            worth(0, 0, 0) -> 4
            worth(0, 0, 1) -> 5
            worth(0, 0, 2) -> 1
            worth(0, 0, 3) -> 2
            worth(0, 0, 4) -> 3
            same(0, 1) -> true
            """);
    }

    private static void greatestStampComesFirst() {
        new Run("the count is looked at before the replica").then("""
            put(0, -1, 0, 2, 0) -> 0
            sync(0, 1) -> 1
            sync(0, 2) -> 1
            put(0, -1, 1, 0, 0) -> 1
            insert(2, 0, 0, 0, 20) -> 2
            insert(0, 0, 0, 0, 10) -> 3
            insert(1, 0, 0, 0, 30) -> 4
            sync(0, 1) -> 2
            sync(2, 1) -> 1
            look(1, 0, 0, 3) -> 3
            look(1, 0, 1, 3) -> 2
            look(1, 0, 2, 3) -> 4
            """);
    }

    private static void insertBehindWhatIsDroppedElsewhere() {
        new Run("behind what is not there").then("""
            put(0, -1, 0, 2, 0) -> 0
            insert(0, 0, 0, 0, 1) -> 1
            insert(0, 0, 1, 0, 2) -> 2
            sync(0, 1) -> 3
            drop(0, 0, 0) -> 3
            insert(1, 0, 1, 0, 3) -> 4
            sync(1, 0) -> 1
            size(0, 0) -> 2
            look(0, 0, 0, 3) -> 4
            look(0, 0, 1, 3) -> 2
            insert(0, 0, 0, 0, 4) -> 5
            look(0, 0, 0, 3) -> 5
            operation(5, 4) -> -1
            insert(0, 0, 2, 0, 5) -> 6
            operation(6, 4) -> 4
            look(0, 0, 2, 3) -> 6
            """);
    }

    private static void lesserStampGoesBehindWholeBranches() {
        new Run("a lesser stamp goes behind whole branches").then("""
            put(0, -1, 0, 2, 0) -> 0
            insert(0, 0, 0, 0, 1) -> 1
            sync(0, 1) -> 2
            insert(1, 0, 1, 0, 2) -> 2
            insert(1, 0, 2, 0, 3) -> 3
            insert(1, 0, 3, 0, 4) -> 4
            insert(0, 0, 1, 0, 5) -> 5
            sync(0, 1) -> 1
            sync(1, 0) -> 3
            look(1, 0, 0, 3) -> 1
            look(1, 0, 1, 3) -> 2
            look(1, 0, 2, 3) -> 3
            look(1, 0, 3, 3) -> 4
            look(1, 0, 4, 3) -> 5
            look(0, 0, 4, 3) -> 5
            give(5, 2) -> 0
            give(0, 2) -> 1
            give(1, 2) -> 2
            look(2, 0, 1, 3) -> 5
            """);
    }

    private static void indexPassesOverDropped() {
        new Run("an index counts what is there").then("""
            put(0, -1, 0, 2, 0) -> 0
            insert(0, 0, 0, 0, 1) -> 1
            insert(0, 0, 1, 0, 2) -> 2
            insert(0, 0, 2, 0, 3) -> 3
            drop(0, 0, 1) -> 4
            insert(0, 0, 3, 0, 4) -> IndexOutOfBoundsException
            insert(0, 0, 2, 0, 4) -> 5
            operation(5, 4) -> 3
            insert(0, 0, 1, 0, 6) -> 6
            operation(6, 4) -> 1
            look(0, 0, 1, 3) -> 6
            size(0, 0) -> 4
            """);
    }

    private static void listsInsideLists() {
        new Run("lists inside lists").then("""
            put(3, -1, 9, 2, 0) -> 0
            insert(3, 0, 0, 2, 55) -> 1
            insert(3, 1, 0, 1, 55) -> 2
            put(3, 2, 0, 0, 8) -> 3
            worth(3, 2, 0) -> 8
            look(3, 0, 0, 0) -> 2
            look(3, 1, 0, 0) -> 1
            insert(3, 2, 0, 0, 1) -> NoSuchElementException
            operation(2, 8) -> 1
            operation(3, 8) -> 1
            """);
    }

    private static void noReplica() {
        new Run("IllegalArgumentException likewise: replica")
            .then("put(0, -1, 0, 2, 0) -> 0\n put(5, -1, 0, 2, 0) -> 1")
            .then("insert(0, 0, 0, 0, 1) -> 2\n insert(5, 1, 0, 0, 1) -> 3")
            .refuses("IllegalArgumentException", """
                insert(-1, 0, 0, 0, 1)
                insert(6, 0, 0, 0, 1)
                insert(MIN, 0, 0, 0, 1)
                insert(MAX, 0, 0, 0, 1)
                insert(6, 9, 9, 9, 1)
                """);
    }

    private static void noKind() {
        new Run("IllegalArgumentException likewise: kind")
            .then("put(0, -1, 0, 2, 0) -> 0\n insert(0, 0, 0, 0, 1) -> 1\n insert(0, 0, 0, 2, 1) -> 2")
            .refuses("IllegalArgumentException", """
                insert(0, 0, 0, -1, 1)
                insert(0, 0, 0, 3, 1)
                insert(0, 0, 0, MIN, 1)
                insert(0, 0, 0, MAX, 1)
                insert(0, 9, 0, 3, 1)
                insert(0, 0, 9, 3, 1)
                """);
    }

    private static void vIsLookedAtForNumberAlone() {
        new Run("v is looked at for NUMBER alone").then("""
            put(0, -1, 0, 2, 0) -> 0
            sync(0, 1) -> 1
            insert(0, 0, 0, 1, MIN) -> 1
            insert(1, 0, 0, 1, MAX) -> 2
            same(0, 1) -> true
            insert(0, 0, 1, 0, MIN) -> 3
            worth(0, 0, 1) -> -9223372036854775808
            """);
    }

    private static void objectIsNotKnown() {
        new Run("NoSuchElementException likewise: the OBJECT is not known")
            .then("put(0, -1, 0, 2, 0) -> 0\n insert(0, 0, 0, 0, 0) -> 1\n add(0, 0, 0, 1) -> 2\n drop(0, 0, 0) -> 3")
            .then("put(1, -1, 0, 2, 0) -> 4\n insert(1, 4, 0, 2, 0) -> 5\n give(5, 0) -> 0")
            .refuses("NoSuchElementException", """
                insert(0, -2, 0, 0, 1)
                insert(0, 1, 0, 0, 1)
                insert(0, 2, 0, 0, 1)
                insert(0, 3, 0, 0, 1)
                insert(0, 4, 0, 0, 1)
                insert(0, 5, 0, 0, 1)
                insert(0, 6, 0, 0, 1)
                insert(0, 300, 0, 0, 1)
                insert(0, MIN, 0, 0, 1)
                insert(0, MAX, 0, 0, 1)
                insert(1, 0, 0, 0, 1)
                insert(1, 0, 9, 0, 1)
                """);
    }

    private static void objectIsNoList() {
        new Run("NoSuchElementException: no list")
            .then("put(0, -1, 0, 1, 0) -> 0\n put(0, 0, 0, 2, 0) -> 1\n insert(0, 1, 0, 1, 0) -> 2")
            .refuses("NoSuchElementException", """
                insert(0, -1, 0, 0, 1)
                insert(0, -1, 9, 0, 1)
                insert(0, 0, 0, 0, 1)
                insert(0, 2, 0, 0, 1)
                """);
    }

    private static void indexBelow0() {
        new Run("index is not 0 to how many are THERE: too small")
            .then("put(0, -1, 0, 2, 0) -> 0")
            .refuses("IndexOutOfBoundsException", """
                insert(0, 0, -1, 0, 1)
                insert(0, 0, MIN, 0, 1)
                """)
            .then("insert(0, 0, 0, 0, 1) -> 1")
            .refuses("IndexOutOfBoundsException", """
                insert(0, 0, -1, 0, 1)
                insert(0, 0, MIN, 0, 1)
                """);
    }

    private static void indexBeyondHowManyAreThere() {
        new Run("index is not 0 to how many are THERE: too large")
            .then("put(0, -1, 0, 2, 0) -> 0")
            .refuses("IndexOutOfBoundsException", """
                insert(0, 0, 1, 0, 1)
                insert(0, 0, MAX, 0, 1)
                """)
            .then("insert(0, 0, 0, 0, 1) -> 1\n insert(0, 0, 1, 0, 2) -> 2")
            .refuses("IndexOutOfBoundsException", """
                insert(0, 0, 3, 0, 1)
                insert(0, 0, MAX, 0, 1)
                """)
            .then("insert(0, 0, 2, 0, 3) -> 3\n worth(0, 0, 2) -> 3");
    }

    private static void indexBeyondWhenSomeAreNotThere() {
        new Run("how many are THERE, not how many there have been")
            .then("put(0, -1, 0, 2, 0) -> 0\n insert(0, 0, 0, 0, 1) -> 1")
            .then("insert(0, 0, 1, 0, 2) -> 2\n drop(0, 0, 0) -> 3")
            .then("sync(0, 1) -> 4\n insert(1, 0, 1, 0, 9) -> 4")
            .refuses("IndexOutOfBoundsException", """
                insert(0, 0, 2, 0, 1)
                insert(1, 0, 3, 0, 1)
                """)
            .then("insert(0, 0, 1, 0, 3) -> 5\n insert(1, 0, 2, 0, 4) -> 6");
    }

    private static void thereAre300() {
        new Run("or there are 300")
            .then("put(0, -1, 0, 2, 0) -> 0")
            .each(1, 300, "insert(0, 0, #-, 0, #) -> #")
            .refuses("IndexOutOfBoundsException", """
                insert(0, 0, 0, 0, 1)
                insert(0, 0, 299, 0, 1)
                insert(0, 0, 300, 0, 1)
                """)
            .refuses("NoSuchElementException", "insert(0, -1, 0, 0, 1)\n insert(1, 0, 0, 0, 1)")
            .refuses("IllegalArgumentException", "insert(0, 0, 0, 3, 1)\n insert(6, 0, 0, 0, 1)")
            .then("size(0, 0) -> 299\n worth(0, 0, 0) -> 1\n worth(0, 0, 298) -> 299")
            .then("sync(0, 2) -> 300\n same(0, 2) -> true");
    }
}
