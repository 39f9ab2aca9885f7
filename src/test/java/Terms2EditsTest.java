/** The boundary cases in section 2 of the Terms: what a REPLICA knows, and where its edits stand. */
public final class Terms2EditsTest {
    public static void main(String[] args) {
        knownIfHeld();
        notKnownWhileItWaits();
        knownAlthoughOverwritten();
        theRootAlways();
        indexCountsWhatIsThere();
        indexGoesByTheOrder();
        insertAtIndex0();
        insertBehindTheIndexBelow();
        insertAtTheEnd();
        heldByItsReplicaAtOnce();
        Run.end();
    }

    private static void knownIfHeld() {
        new Run("OBJECTS are known if the OPERATION that made them is held")
            .then("put(0, -1, 0, 1, 0) -> 0\n put(0, -1, 1, 2, 0) -> 1\n insert(0, 1, 0, 1, 0) -> 2\n size(0, 0) -> 0")
            .refuses("NoSuchElementException", """
                put(1, 0, 0, 0, 1)
                insert(1, 1, 0, 0, 1)
                set(1, 1, 0, 0, 1)
                drop(1, 1, 0)
                add(1, 1, 0, 1)
                size(1, 0)
                look(1, 1, 0, 0)
                worth(1, 1, 0)
                value(1, 1, 0, 0)
                size(1, 2)
                """)
            .then("give(1, 1) -> 1\n size(1, 1) -> 0\n size(1, 0) -> NoSuchElementException")
            .then("give(0, 1) -> 1\n put(1, 0, 0, 0, 1) -> 3\n size(1, 2) -> NoSuchElementException")
            .then("give(2, 1) -> 1\n size(1, 2) -> 0\n size(1, 1) -> 1");
    }

    private static void notKnownWhileItWaits() {
        new Run("an OBJECT is not known while its OPERATION WAITS")
            .then("put(0, -1, 0, 1, 0) -> 0\n put(0, 0, 0, 1, 0) -> 1\n put(0, 0, 1, 2, 0) -> 2")
            .then("give(1, 1) -> 0\n give(2, 1) -> 0\n count(2, 1) -> 2")
            .refuses("NoSuchElementException", """
                size(1, 1)
                size(1, 2)
                put(1, 1, 0, 0, 1)
                insert(1, 2, 0, 0, 1)
                """)
            .then("give(0, 1) -> 3\n size(1, 1) -> 0\n put(1, 1, 0, 0, 1) -> 3\n insert(1, 2, 0, 0, 1) -> 4");
    }

    private static void knownAlthoughOverwritten() {
        new Run("an OBJECT that is OVERWRITTEN or beaten is known as before").then("""
            put(0, -1, 0, 1, 0) -> 0
            put(0, 0, 7, 0, 70) -> 1
            drop(0, -1, 0) -> 2
            size(0, 0) -> 1
            worth(0, 0, 7) -> 70
            put(0, 0, 8, 2, 0) -> 3
            insert(0, 3, 0, 0, 1) -> 4
            size(0, 0) -> 2
            put(0, -1, 0, 2, 0) -> 5
            put(0, 0, 9, 0, 1) -> 6
            size(0, 0) -> 3
            size(0, 5) -> 0
            count(4, 0) -> 2
            """);
    }

    private static void theRootAlways() {
        Run run = new Run("the ROOT is known always");
        run.each(0, 6, "size(#, -1) -> 0\n look(#, -1, 0, 0) -> IndexOutOfBoundsException");
        run.each(0, 6, "put(#, -1, 0, 0, 1) -> #\n size(#, -1) -> 1");
    }

    private static void indexCountsWhatIsThere() {
        new Run("an index counts the elements that are THERE")
            .then("""
                put(0, -1, 0, 2, 0) -> 0
                insert(0, 0, 0, 0, 10) -> 1
                insert(0, 0, 1, 0, 11) -> 2
                insert(0, 0, 2, 0, 12) -> 3
                insert(0, 0, 3, 0, 13) -> 4
                insert(0, 0, 4, 0, 14) -> 5
                drop(0, 0, 0) -> 6
                drop(0, 0, 1) -> 7
                drop(0, 0, 2) -> 8
                size(0, 0) -> 2
                look(0, 0, 0, 3) -> 2
                look(0, 0, 1, 3) -> 4
                set(0, 0, 1, 0, 33) -> 9
                operation(9, 4) -> 4
                add(0, 0, 0, 100) -> 10
                operation(10, 4) -> 2
                worth(0, 0, 0) -> 111
                worth(0, 0, 1) -> 33
                """)
            .refuses("IndexOutOfBoundsException", """
                look(0, 0, 2, 3)
                look(0, 0, -1, 3)
                set(0, 0, 2, 0, 1)
                drop(0, 0, 2)
                add(0, 0, 2, 1)
                worth(0, 0, 2)
                value(0, 0, 2, 0)
                insert(0, 0, 3, 0, 1)
                """)
            .then("drop(0, 0, 0) -> 11\n look(0, 0, 0, 3) -> 4\n drop(0, 0, 0) -> 12\n size(0, 0) -> 0");
    }

    private static void indexGoesByTheOrder() {
        new Run("an index goes by THE ORDER, not by when an element came").then("""
            put(0, -1, 0, 2, 0) -> 0
            sync(0, 1) -> 1
            insert(0, 0, 0, 0, 1) -> 1
            insert(0, 0, 0, 0, 2) -> 2
            insert(1, 0, 0, 0, 3) -> 3
            sync(1, 0) -> 1
            look(0, 0, 0, 3) -> 2
            look(0, 0, 1, 3) -> 3
            look(0, 0, 2, 3) -> 1
            """);
    }

    private static void insertAtIndex0() {
        new Run("an insert at index 0 stands behind the front, also before what is not THERE").then("""
            put(0, -1, 0, 2, 0) -> 0
            insert(0, 0, 0, 0, 1) -> 1
            operation(1, 4) -> -1
            drop(0, 0, 0) -> 2
            insert(0, 0, 0, 0, 2) -> 3
            operation(3, 4) -> -1
            insert(0, 0, 0, 0, 3) -> 4
            operation(4, 4) -> -1
            look(0, 0, 0, 3) -> 4
            look(0, 0, 1, 3) -> 3
            """);
        new Run("an insert at index 0 comes first although another one came there").then("""
            put(5, -1, 0, 2, 0) -> 0
            sync(5, 0) -> 1
            insert(5, 0, 0, 0, 1) -> 1
            sync(5, 0) -> 1
            insert(0, 0, 0, 0, 2) -> 2
            operation(2, 4) -> -1
            worth(0, 0, 0) -> 2
            worth(0, 0, 1) -> 1
            """);
    }

    private static void insertBehindTheIndexBelow() {
        new Run("else behind the element with the index below, and not behind one that is not THERE").then("""
            put(0, -1, 0, 2, 0) -> 0
            insert(0, 0, 0, 0, 1) -> 1
            insert(0, 0, 1, 0, 2) -> 2
            insert(0, 0, 2, 0, 3) -> 3
            drop(0, 0, 1) -> 4
            insert(0, 0, 1, 0, 4) -> 5
            operation(5, 4) -> 1
            look(0, 0, 0, 3) -> 1
            look(0, 0, 1, 3) -> 5
            look(0, 0, 2, 3) -> 3
            insert(0, 0, 2, 0, 5) -> 6
            operation(6, 4) -> 5
            insert(0, 0, 4, 0, 6) -> 7
            operation(7, 4) -> 3
            """);
    }

    private static void insertAtTheEnd() {
        new Run("an insert at the end, with what is not THERE behind it").then("""
            put(0, -1, 0, 2, 0) -> 0
            insert(0, 0, 0, 0, 1) -> 1
            insert(0, 0, 1, 0, 2) -> 2
            drop(0, 0, 1) -> 3
            insert(0, 0, 1, 0, 3) -> 4
            operation(4, 4) -> 1
            size(0, 0) -> 2
            look(0, 0, 1, 3) -> 4
            insert(0, 0, 3, 0, 4) -> IndexOutOfBoundsException
            insert(0, 0, 2, 0, 4) -> 5
            operation(5, 4) -> 4
            """);
    }

    private static void heldByItsReplicaAtOnce() {
        new Run("an OPERATION is held by its REPLICA at once, and by no other one").then("""
            put(0, -1, 0, 2, 0) -> 0
            count(1, 0) -> 1
            insert(0, 0, 0, 0, 1) -> 1
            count(1, 0) -> 2
            set(0, 0, 0, 0, 2) -> 2
            count(1, 0) -> 3
            add(0, 0, 0, 3) -> 3
            count(1, 0) -> 4
            worth(0, 0, 0) -> 5
            drop(0, 0, 0) -> 4
            count(1, 0) -> 5
            size(0, 0) -> 0
            count(2, 0) -> 0
            count(1, 1) -> 0
            count(1, 5) -> 0
            count(2, 1) -> 0
            give(4, 0) -> 0
            """);
    }
}
