/** The boundary cases in section 1 of the Terms (and of the sentence above the face on 512 calls). */
public final class Terms1StampsAndValuesTest {
    public static void main(String[] args) {
        usedForAtMost512Calls();
        replicas0To5();
        upTo300Operations();
        everyKindCanBeTheLast();
        numberedAsTheyAreMade();
        countIs1IfItHoldsNone();
        countIsOneMoreThanTheGreatestHeld();
        countGoesUpTo300();
        stampByTheCount();
        thenByTheReplica();
        theRootIsAMap();
        objectsAreMadeByMapsAndLists();
        keys0To15();
        theFront();
        nothingIsOverwritten();
        allLiveOnesAreOverwritten();
        onlyWhatIsLiveForTheReplicaIsOverwritten();
        insertAndAddOverwriteNothing();
        liveIfHeld();
        liveIfNoHeldOneOverwritesIt();
        thereIfItHasALiveValue();
        elementIsThereAgain();
        worthWrapsUpwards();
        worthWrapsDownwards();
        worthOfAddsThatAreHeldAlone();
        worthOfAddsThatGoToItAlone();
        orderGreatestStampFirst();
        orderOfWhatStandsBehind();
        orderOfWhatIsNotThere();
        orderOfAnEmptyList();
        Run.end();
    }

    private static void usedForAtMost512Calls() {
        new Run("the last of 512 calls still answers")
            .each(0, 256, "put(0, -1, 3, 0, #) -> #")
            .each(0, 254, "worth(0, -1, 3) -> 255")
            .then("add(0, -1, 3, 5) -> 256\n worth(0, -1, 3) -> 260");
        new Run("the 512th call makes an operation")
            .each(0, 511, "count(0, 5) -> 0")
            .then("put(5, -1, 0, 0, 1) -> 0");
    }

    private static void replicas0To5() {
        new Run("REPLICAS 0..5")
            .each(0, 6, "put(#, -1, #, 0, 1) -> #")
            .each(0, 6, "count(1, #) -> 1\n operation(#, 2) -> #")
            .each(0, 5, "sync(#, 5) -> 1")
            .then("size(5, -1) -> 6\n sync(5, 0) -> 5\n same(0, 5) -> true")
            .refuses("IllegalArgumentException", """
                put(-1, -1, 0, 0, 1)
                put(6, -1, 0, 0, 1)
                """);
    }

    private static void upTo300Operations() {
        new Run("OPERATIONS (up to 300)")
            .each(0, 299, "put(0, -1, 0, 0, #) -> #")
            .then("count(0, 0) -> 299\n put(1, -1, 0, 0, 7) -> 299\n count(0, 0) -> 300")
            .refuses("IndexOutOfBoundsException", """
                put(0, -1, 0, 0, 1)
                put(1, -1, 0, 0, 1)
                put(5, -1, 15, 2, 1)
                """)
            .then("count(0, 0) -> 300\n sync(0, 1) -> 299\n sync(1, 0) -> 1");
    }

    private static void everyKindCanBeTheLast() {
        String[] edits = {
            "put(0, -1, 1, 0, 4)", "insert(0, 0, 1, 0, 4)", "set(0, 0, 0, 0, 4)", "drop(0, 0, 0)", "add(0, 0, 0, 4)"};
        for (int kind = 0; kind < edits.length; kind++) {
            new Run("a last operation of kind " + kind)
                .then("put(0, -1, 0, 2, 0) -> 0\n insert(0, 0, 0, 0, 1) -> 1\n put(1, -1, 2, 2, 0) -> 2")
                .then("insert(1, 2, 0, 0, 1) -> 3")
                .each(4, 299, "put(2, -1, 2, 0, #) -> #")
                .then(edits[kind] + " -> 299")
                .then("operation(299, 0) -> " + kind + "\n count(0, 0) -> 300\n count(1, 0) -> 3")
                .refuses("IndexOutOfBoundsException", """
                    put(1, -1, 1, 0, 4)
                    insert(1, 2, 1, 0, 4)
                    set(1, 2, 0, 0, 4)
                    drop(1, 2, 0)
                    add(1, 2, 0, 4)
                    """);
        }
    }

    private static void numberedAsTheyAreMade() {
        new Run("numbered 0, 1, .. as they are made")
            .then("put(5, -1, 0, 0, 1) -> 0\n put(0, -1, 0, 0, 1) -> 1\n put(0, -1, 16, 0, 1) -> IllegalArgumentException")
            .then("put(0, 7, 0, 0, 1) -> NoSuchElementException\n drop(0, -1, 1) -> IndexOutOfBoundsException")
            .then("drop(5, -1, 0) -> 2\n add(0, -1, 0, 1) -> 3\n count(0, 0) -> 4")
            .then("operation(0, 2) -> 5\n operation(1, 2) -> 0\n operation(2, 2) -> 5\n operation(3, 2) -> 0");
    }

    private static void countIs1IfItHoldsNone() {
        new Run("the count is 1 if it holds none").then("""
            put(0, -1, 0, 1, 0) -> 0
            put(0, 0, 0, 0, 1) -> 1
            put(0, 0, 1, 0, 2) -> 2
            operation(0, 1) -> 1
            count(3, 1) -> 0
            put(1, -1, 0, 0, 1) -> 3
            operation(3, 1) -> 1
            count(3, 1) -> 1
            """);
        new Run("the count is 1 if all that it got WAITS").then("""
            put(0, -1, 0, 1, 0) -> 0
            put(0, 0, 0, 0, 1) -> 1
            put(0, 0, 1, 0, 2) -> 2
            give(2, 1) -> 0
            give(1, 1) -> 0
            count(3, 1) -> 0
            put(1, -1, 0, 0, 1) -> 3
            operation(3, 1) -> 1
            """);
    }

    private static void countIsOneMoreThanTheGreatestHeld() {
        new Run("one more than the greatest one, not than how many are held").then("""
            put(0, -1, 0, 0, 1) -> 0
            put(0, -1, 1, 0, 1) -> 1
            put(0, -1, 2, 0, 1) -> 2
            give(2, 1) -> 1
            count(1, 1) -> 1
            put(1, -1, 3, 0, 1) -> 3
            operation(3, 1) -> 4
            """);
        new Run("the greatest one, not the last one that came").then("""
            put(0, -1, 0, 0, 1) -> 0
            put(0, -1, 1, 0, 1) -> 1
            put(0, -1, 2, 0, 1) -> 2
            give(2, 1) -> 1
            give(0, 1) -> 1
            put(1, -1, 3, 0, 1) -> 3
            operation(3, 1) -> 4
            """);
        new Run("what was freed from waiting counts, too").then("""
            put(0, -1, 0, 1, 0) -> 0
            put(0, 0, 0, 0, 1) -> 1
            put(0, 0, 0, 0, 1) -> 2
            give(2, 1) -> 0
            give(1, 1) -> 0
            give(0, 1) -> 3
            put(1, -1, 3, 0, 1) -> 3
            operation(3, 1) -> 4
            """);
        new Run("of all that are held: a DROP and an ADD count, too").then("""
            put(0, -1, 0, 0, 1) -> 0
            add(0, -1, 0, 1) -> 1
            drop(0, -1, 0) -> 2
            put(0, -1, 0, 0, 1) -> 3
            operation(1, 1) -> 2
            operation(2, 1) -> 3
            operation(3, 1) -> 4
            """);
    }

    private static void countGoesUpTo300() {
        new Run("the greatest count that there can be")
            .each(0, 300, "put(3, -1, 0, 0, #) -> #")
            .then("operation(0, 1) -> 1\n operation(299, 1) -> 300\n count(3, 3) -> 300");
    }

    private static void stampByTheCount() {
        new Run("greater by the count").then("""
            put(5, -1, 0, 0, 50) -> 0
            put(0, -1, 1, 0, 0) -> 1
            put(0, -1, 0, 0, 10) -> 2
            sync(5, 0) -> 1
            look(0, -1, 0, 1) -> 2
            sync(0, 5) -> 2
            look(5, -1, 0, 1) -> 2
            value(5, -1, 0, 1) -> 0
            """);
    }

    private static void thenByTheReplica() {
        new Run("then by the REPLICA")
            .then("put(5, -1, 0, 0, 5) -> 0\n put(3, -1, 0, 0, 3) -> 1\n put(4, -1, 0, 0, 4) -> 2")
            .then("put(0, -1, 0, 0, 0) -> 3\n put(2, -1, 0, 0, 2) -> 4\n put(1, -1, 0, 0, 1) -> 5")
            .each(1, 6, "sync(#, 0) -> 1")
            .then("value(0, -1, 0, 0) -> 0\n value(0, -1, 0, 1) -> 2\n value(0, -1, 0, 2) -> 1")
            .then("value(0, -1, 0, 3) -> 4\n value(0, -1, 0, 4) -> 5\n value(0, -1, 0, 5) -> 3");
    }

    private static void theRootIsAMap() {
        new Run("the ROOT (-1), a map")
            .then("put(0, -1, 0, 0, 1) -> 0\n size(0, -1) -> 1\n operation(0, 3) -> -1")
            .refuses("NoSuchElementException", """
                insert(0, -1, 0, 0, 1)
                set(0, -1, 0, 0, 1)
                put(0, -2, 0, 0, 1)
                size(0, -2)
                """);
    }

    private static void objectsAreMadeByMapsAndLists() {
        new Run("OBJECTS are made by OPERATIONS whose VALUE is MAP or LIST")
            .then("""
                put(0, -1, 0, 1, 0) -> 0
                put(0, -1, 1, 2, 0) -> 1
                insert(0, 1, 0, 1, 0) -> 2
                insert(0, 1, 1, 2, 0) -> 3
                set(0, 1, 0, 1, 0) -> 4
                set(0, 1, 1, 2, 0) -> 5
                put(0, -1, 2, 0, 0) -> 6
                add(0, -1, 2, 1) -> 7
                drop(0, -1, 2) -> 8
                insert(0, 1, 2, 0, 0) -> 9
                set(0, 1, 2, 0, 0) -> 10
                """)
            .each(2, 6, "size(0, #) -> 0")
            .then("size(0, 0) -> 0\n size(0, 1) -> 3")
            .refuses("NoSuchElementException", """
                size(0, 6)
                size(0, 7)
                size(0, 8)
                size(0, 9)
                size(0, 10)
                size(0, 11)
                """);
    }

    private static void keys0To15() {
        new Run("a key 0..15")
            .each(0, 16, "put(0, -1, #, 0, #) -> #")
            .then("size(0, -1) -> 16")
            .each(0, 16, "worth(0, -1, #) -> #\n operation(#, 4) -> #")
            .refuses("IllegalArgumentException", """
                put(0, -1, -1, 0, 1)
                put(0, -1, 16, 0, 1)
                """);
    }

    private static void theFront() {
        new Run("-1 the front").then("""
            put(0, -1, 0, 2, 0) -> 0
            insert(0, 0, 0, 0, 1) -> 1
            insert(0, 0, 0, 0, 2) -> 2
            insert(0, 0, 1, 0, 3) -> 3
            operation(1, 4) -> -1
            operation(2, 4) -> -1
            operation(3, 4) -> 2
            operation(1, 8) -> 1
            operation(2, 8) -> 1
            operation(3, 8) -> 2
            """);
    }

    private static void nothingIsOverwritten() {
        new Run("no VALUES are LIVE: none is OVERWRITTEN").then("""
            put(0, -1, 0, 0, 1) -> 0
            operation(0, 6) -> 0
            put(1, -1, 0, 0, 2) -> 1
            operation(1, 6) -> 0
            drop(0, -1, 0) -> 2
            operation(2, 6) -> 1
            put(0, -1, 0, 0, 3) -> 3
            operation(3, 6) -> 0
            put(0, -1, 1, 0, 3) -> 4
            operation(4, 6) -> 0
            """);
    }

    private static void allLiveOnesAreOverwritten() {
        String sixAtOnce = """
            put(0, -1, 0, 0, 0) -> 0
            put(1, -1, 0, 0, 1) -> 1
            put(2, -1, 0, 0, 2) -> 2
            put(3, -1, 0, 0, 3) -> 3
            put(4, -1, 0, 0, 4) -> 4
            put(5, -1, 0, 0, 5) -> 5
            """;
        new Run("a PUT OVERWRITES all VALUES of its key that are LIVE").then(sixAtOnce)
            .each(1, 6, "sync(#, 0) -> 1")
            .then("look(0, -1, 0, 2) -> 6\n put(0, -1, 0, 0, 7) -> 6\n operation(6, 6) -> 6\n look(0, -1, 0, 2) -> 1");
        new Run("a DROP OVERWRITES all VALUES of its key that are LIVE").then(sixAtOnce)
            .each(1, 6, "sync(#, 0) -> 1")
            .then("drop(0, -1, 0) -> 6\n operation(6, 6) -> 6\n size(0, -1) -> 0");
        String setsAtOnce = """
            put(0, -1, 0, 2, 0) -> 0
            insert(0, 0, 0, 0, 1) -> 1
            sync(0, 1) -> 2
            sync(0, 2) -> 2
            set(1, 0, 0, 0, 1) -> 2
            set(2, 0, 0, 0, 2) -> 3
            sync(1, 2) -> 1
            look(2, 0, 0, 2) -> 2
            """;
        new Run("a SET OVERWRITES all VALUES of its element that are LIVE").then(setsAtOnce)
            .then("set(2, 0, 0, 0, 3) -> 4\n operation(4, 6) -> 2\n look(2, 0, 0, 2) -> 1");
        new Run("a DROP OVERWRITES all VALUES of its element that are LIVE").then(setsAtOnce)
            .then("drop(2, 0, 0) -> 4\n operation(4, 6) -> 2\n size(2, 0) -> 0");
    }

    private static void onlyWhatIsLiveForTheReplicaIsOverwritten() {
        new Run("OVERWRITTEN are those that are LIVE for the REPLICA when it is made").then("""
            put(0, -1, 0, 0, 1) -> 0
            put(1, -1, 0, 0, 2) -> 1
            put(2, -1, 0, 0, 3) -> 2
            sync(0, 1) -> 1
            put(1, -1, 0, 0, 4) -> 3
            operation(3, 6) -> 2
            sync(2, 1) -> 1
            look(1, -1, 0, 2) -> 2
            value(1, -1, 0, 1) -> 2
            """);
        new Run("what WAITS, or is OVERWRITTEN already, is not LIVE").then("""
            put(0, -1, 0, 1, 0) -> 0
            put(0, -1, 0, 0, 1) -> 1
            put(0, -1, 0, 0, 2) -> 2
            operation(2, 6) -> 1
            give(2, 1) -> 0
            put(1, -1, 0, 0, 3) -> 3
            operation(3, 6) -> 0
            """);
        new Run("VALUES of other PLACES are not OVERWRITTEN").then("""
            put(0, -1, 0, 1, 0) -> 0
            put(0, -1, 1, 1, 0) -> 1
            put(0, 0, 0, 0, 1) -> 2
            put(0, 1, 0, 0, 2) -> 3
            operation(1, 6) -> 0
            operation(2, 6) -> 0
            operation(3, 6) -> 0
            worth(0, 0, 0) -> 1
            size(0, -1) -> 2
            """);
    }

    private static void insertAndAddOverwriteNothing() {
        new Run("INSERT and ADD OVERWRITE nothing").then("""
            put(0, -1, 0, 2, 0) -> 0
            insert(0, 0, 0, 0, 1) -> 1
            insert(0, 0, 0, 0, 2) -> 2
            add(0, 0, 0, 5) -> 3
            operation(2, 6) -> 0
            operation(3, 6) -> 0
            size(0, 0) -> 2
            look(0, 0, 0, 2) -> 1
            worth(0, 0, 0) -> 7
            worth(0, 0, 1) -> 1
            """);
    }

    private static void liveIfHeld() {
        new Run("a VALUE that WAITS is not LIVE").then("""
            put(0, -1, 0, 0, 1) -> 0
            put(0, -1, 0, 0, 2) -> 1
            give(1, 1) -> 0
            size(1, -1) -> 0
            look(1, -1, 0, 2) -> IndexOutOfBoundsException
            give(0, 1) -> 2
            look(1, -1, 0, 2) -> 1
            worth(1, -1, 0) -> 2
            """);
        new Run("a VALUE that only others hold is not LIVE").then("""
            put(0, -1, 0, 0, 1) -> 0
            size(0, -1) -> 1
            size(1, -1) -> 0
            """);
    }

    private static void liveIfNoHeldOneOverwritesIt() {
        new Run("what WAITS does not OVERWRITE").then("""
            put(0, -1, 0, 0, 1) -> 0
            put(1, -1, 0, 0, 2) -> 1
            sync(1, 0) -> 1
            drop(0, -1, 0) -> 2
            give(0, 2) -> 1
            give(2, 2) -> 0
            count(2, 2) -> 1
            worth(2, -1, 0) -> 1
            give(1, 2) -> 2
            size(2, -1) -> 0
            """);
        new Run("what only others hold does not OVERWRITE").then("""
            put(0, -1, 0, 0, 1) -> 0
            sync(0, 1) -> 1
            drop(0, -1, 0) -> 1
            size(0, -1) -> 0
            worth(1, -1, 0) -> 1
            """);
        new Run("an OVERWRITTEN one stays so when what OVERWRITES it is OVERWRITTEN").then("""
            put(0, -1, 0, 0, 1) -> 0
            put(0, -1, 0, 0, 2) -> 1
            drop(0, -1, 0) -> 2
            size(0, -1) -> 0
            """);
    }

    private static void thereIfItHasALiveValue() {
        new Run("a key is THERE if it has a LIVE VALUE").then("""
            size(0, -1) -> 0
            put(0, -1, 0, 0, 1) -> 0
            size(0, -1) -> 1
            drop(0, -1, 0) -> 1
            size(0, -1) -> 0
            look(0, -1, 0, 0) -> IndexOutOfBoundsException
            put(0, -1, 0, 0, 2) -> 2
            size(0, -1) -> 1
            worth(0, -1, 0) -> 2
            """);
        new Run("one LIVE VALUE is left by a DROP that did not see it").then("""
            put(0, -1, 0, 0, 1) -> 0
            put(1, -1, 0, 0, 2) -> 1
            drop(0, -1, 0) -> 2
            sync(1, 0) -> 1
            size(0, -1) -> 1
            worth(0, -1, 0) -> 2
            """);
    }

    private static void elementIsThereAgain() {
        new Run("an element is THERE again, where it was, by a SET of another REPLICA").then("""
            put(0, -1, 0, 2, 0) -> 0
            insert(0, 0, 0, 0, 1) -> 1
            insert(0, 0, 1, 0, 2) -> 2
            insert(0, 0, 2, 0, 3) -> 3
            sync(0, 1) -> 4
            drop(0, 0, 1) -> 4
            size(0, 0) -> 2
            set(1, 0, 1, 0, 22) -> 5
            sync(1, 0) -> 1
            size(0, 0) -> 3
            worth(0, 0, 1) -> 22
            look(0, 0, 1, 3) -> 2
            look(0, 0, 1, 1) -> 5
            """);
    }

    private static void worthWrapsUpwards() {
        new Run("64 bits, wrapping, upwards").then("""
            put(0, -1, 0, 0, MAX) -> 0
            worth(0, -1, 0) -> 9223372036854775807
            add(0, -1, 0, 1) -> 1
            worth(0, -1, 0) -> -9223372036854775808
            add(0, -1, 0, MAX) -> 2
            worth(0, -1, 0) -> -1
            """);
        new Run("ADDS of several REPLICAS wrap, too").then("""
            put(0, -1, 0, 0, 0) -> 0
            sync(0, 1) -> 1
            add(0, -1, 0, MAX) -> 1
            add(1, -1, 0, MAX) -> 2
            sync(1, 0) -> 1
            worth(0, -1, 0) -> -2
            sync(0, 1) -> 1
            worth(1, -1, 0) -> -2
            """);
    }

    private static void worthWrapsDownwards() {
        new Run("64 bits, wrapping, downwards").then("""
            put(0, -1, 0, 2, 0) -> 0
            insert(0, 0, 0, 0, MIN) -> 1
            worth(0, 0, 0) -> -9223372036854775808
            add(0, 0, 0, -1) -> 2
            worth(0, 0, 0) -> 9223372036854775807
            add(0, 0, 0, 1) -> 3
            worth(0, 0, 0) -> -9223372036854775808
            add(0, 0, 0, MIN) -> 4
            worth(0, 0, 0) -> 0
            """);
    }

    private static void worthOfAddsThatAreHeldAlone() {
        new Run("ADDS that WAIT, or that only others hold, add nothing").then("""
            put(0, -1, 0, 0, 1) -> 0
            add(0, -1, 0, 10) -> 1
            add(0, -1, 0, 100) -> 2
            give(2, 1) -> 0
            give(0, 1) -> 2
            worth(1, -1, 0) -> 101
            put(0, -1, 0, 0, 2) -> 3
            add(0, -1, 0, 1000) -> 4
            give(4, 1) -> 0
            worth(1, -1, 0) -> 101
            worth(0, -1, 0) -> 1002
            """);
    }

    private static void worthOfAddsThatGoToItAlone() {
        new Run("ADDS that go to another VALUE of the PLACE add nothing").then("""
            put(0, -1, 0, 0, 1) -> 0
            add(0, -1, 0, 10) -> 1
            put(0, -1, 0, 0, 1) -> 2
            worth(0, -1, 0) -> 1
            put(5, -1, 1, 0, 7) -> 3
            add(5, -1, 1, 20) -> 4
            put(0, -1, 1, 0, 8) -> 5
            sync(5, 0) -> 2
            worth(0, -1, 1) -> 8
            worth(5, -1, 1) -> 27
            """);
    }

    private static void orderGreatestStampFirst() {
        new Run("behind the front the greatest STAMP first")
            .then("put(0, -1, 0, 2, 0) -> 0")
            .each(1, 6, "sync(0, #) -> 1")
            .then("insert(4, 0, 0, 0, 4) -> 1\n insert(1, 0, 0, 0, 1) -> 2\n insert(5, 0, 0, 0, 5) -> 3")
            .then("insert(2, 0, 0, 0, 2) -> 4\n insert(0, 0, 0, 0, 0) -> 5\n insert(3, 0, 0, 0, 3) -> 6")
            .then("put(0, -1, 1, 0, 0) -> 7\n insert(0, 0, 0, 0, 9) -> 8")
            .then("sync(0, 1) -> 3\n sync(2, 1) -> 1\n sync(3, 1) -> 1\n sync(4, 1) -> 1\n sync(5, 1) -> 1")
            .then("worth(1, 0, 0) -> 9\n worth(1, 0, 1) -> 5\n worth(1, 0, 2) -> 4\n worth(1, 0, 3) -> 3")
            .then("worth(1, 0, 4) -> 2\n worth(1, 0, 5) -> 1\n worth(1, 0, 6) -> 0\n size(1, 0) -> 7");
    }

    private static void orderOfWhatStandsBehind() {
        new Run("each one followed by those that stand behind it, likewise").then("""
            put(0, -1, 0, 2, 0) -> 0
            insert(0, 0, 0, 0, 10) -> 1
            sync(0, 1) -> 2
            insert(0, 0, 1, 0, 11) -> 2
            insert(0, 0, 2, 0, 12) -> 3
            insert(1, 0, 1, 0, 21) -> 4
            insert(1, 0, 2, 0, 22) -> 5
            insert(1, 0, 0, 0, 20) -> 6
            sync(0, 1) -> 2
            worth(1, 0, 0) -> 20
            worth(1, 0, 1) -> 10
            worth(1, 0, 2) -> 21
            worth(1, 0, 3) -> 22
            worth(1, 0, 4) -> 11
            worth(1, 0, 5) -> 12
            sync(1, 0) -> 3
            same(0, 1) -> true
            """);
    }

    private static void orderOfWhatIsNotThere() {
        new Run("THE ORDER also of those that are not THERE").then("""
            put(0, -1, 0, 2, 0) -> 0
            insert(0, 0, 0, 0, 1) -> 1
            insert(0, 0, 1, 0, 2) -> 2
            insert(0, 0, 2, 0, 3) -> 3
            sync(0, 1) -> 4
            drop(0, 0, 1) -> 4
            insert(1, 0, 2, 0, 9) -> 5
            sync(1, 0) -> 1
            size(0, 0) -> 3
            worth(0, 0, 0) -> 1
            worth(0, 0, 1) -> 9
            worth(0, 0, 2) -> 3
            """);
        new Run("behind an element that is not THERE stand others that are").then("""
            put(0, -1, 0, 2, 0) -> 0
            insert(0, 0, 0, 0, 1) -> 1
            insert(0, 0, 1, 0, 2) -> 2
            drop(0, 0, 0) -> 3
            size(0, 0) -> 1
            worth(0, 0, 0) -> 2
            insert(0, 0, 0, 0, 3) -> 4
            worth(0, 0, 0) -> 3
            worth(0, 0, 1) -> 2
            """);
    }

    private static void orderOfAnEmptyList() {
        new Run("an empty list")
            .then("put(0, -1, 0, 2, 0) -> 0\n size(0, 0) -> 0")
            .refuses("IndexOutOfBoundsException", """
                look(0, 0, 0, 0)
                set(0, 0, 0, 0, 1)
                drop(0, 0, 0)
                insert(0, 0, 1, 0, 1)
                """)
            .then("insert(0, 0, 0, 0, 1) -> 1\n drop(0, 0, 0) -> 2\n size(0, 0) -> 0")
            .refuses("IndexOutOfBoundsException", """
                look(0, 0, 0, 0)
                set(0, 0, 0, 0, 1)
                drop(0, 0, 0)
                insert(0, 0, 1, 0, 1)
                """);
    }
}
