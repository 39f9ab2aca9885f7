/** The boundary cases in section 3 of the Terms: CAUSES, what WAITS, and what is held later. */
public final class Terms3DeliveringTest {
    public static void main(String[] args) {
        whatMadeItsObject();
        itsElement();
        whatItStandsBehind();
        theFrontIsNoCause();
        theRootIsNoCause();
        whatAPutOverwrites();
        whatASetOverwrites();
        whatADropOverwrites();
        whatAnAddGoesTo();
        whatIsNoCause();
        gotWhatIsHeld();
        gotWhatWaits();
        heldIfAllCausesAre();
        heldThenToo();
        asLongAsThereAreSuch();
        severalAtOnce();
        oneCauseOfSeveral();
        ownOperationsFreeNothing();
        waitsInItsReplicaAlone();
        Run.end();
    }

    private static void whatMadeItsObject() {
        new Run("WAITS for the one that made its OBJECT").then("""
            put(0, -1, 0, 1, 0) -> 0
            put(0, 0, 0, 0, 1) -> 1
            put(0, -1, 1, 2, 0) -> 2
            insert(0, 2, 0, 0, 1) -> 3
            operation(1, 8) -> 1
            operation(3, 8) -> 1
            give(1, 1) -> 0
            give(3, 1) -> 0
            count(1, 1) -> 0
            count(2, 1) -> 2
            give(2, 1) -> 2
            count(2, 1) -> 1
            give(0, 1) -> 2
            count(2, 1) -> 0
            """);
    }

    private static void itsElement() {
        new Run("WAITS for its element").then("""
            put(0, -1, 0, 2, 0) -> 0
            insert(0, 0, 0, 0, 1) -> 1
            set(0, 0, 0, 0, 2) -> 2
            set(0, 0, 0, 0, 3) -> 3
            add(0, 0, 0, 4) -> 4
            drop(0, 0, 0) -> 5
            operation(2, 8) -> 2
            operation(3, 8) -> 3
            operation(4, 8) -> 3
            operation(5, 8) -> 3
            give(0, 1) -> 1
            give(5, 1) -> 0
            give(4, 1) -> 0
            give(3, 1) -> 0
            give(2, 1) -> 0
            count(2, 1) -> 4
            give(1, 1) -> 5
            count(2, 1) -> 0
            """);
    }

    private static void whatItStandsBehind() {
        new Run("WAITS for the one that it stands behind").then("""
            put(0, -1, 0, 2, 0) -> 0
            insert(0, 0, 0, 0, 1) -> 1
            insert(0, 0, 1, 0, 2) -> 2
            operation(2, 8) -> 2
            give(0, 1) -> 1
            give(2, 1) -> 0
            count(2, 1) -> 1
            size(1, 0) -> 0
            give(1, 1) -> 2
            size(1, 0) -> 2
            """);
    }

    private static void theFrontIsNoCause() {
        new Run("what stands behind the front WAITS for its OBJECT alone").then("""
            put(0, -1, 0, 2, 0) -> 0
            insert(0, 0, 0, 0, 1) -> 1
            insert(0, 0, 0, 0, 2) -> 2
            operation(2, 8) -> 1
            give(0, 1) -> 1
            give(2, 1) -> 1
            size(1, 0) -> 1
            count(2, 1) -> 0
            """);
    }

    private static void theRootIsNoCause() {
        new Run("what changes the ROOT WAITS for no OBJECT").then("""
            put(0, -1, 0, 0, 1) -> 0
            operation(0, 8) -> 0
            put(0, -1, 1, 0, 1) -> 1
            operation(1, 8) -> 0
            give(1, 1) -> 1
            count(2, 1) -> 0
            """);
    }

    private static void whatAPutOverwrites() {
        new Run("a PUT WAITS for each one that it OVERWRITES").then("""
            put(0, -1, 0, 0, 1) -> 0
            put(1, -1, 0, 0, 2) -> 1
            sync(1, 0) -> 1
            put(0, -1, 0, 0, 3) -> 2
            operation(2, 8) -> 2
            give(2, 2) -> 0
            give(1, 2) -> 1
            count(2, 2) -> 1
            worth(2, -1, 0) -> 2
            give(0, 2) -> 2
            worth(2, -1, 0) -> 3
            look(2, -1, 0, 2) -> 1
            """);
    }

    private static void whatASetOverwrites() {
        new Run("a SET WAITS for what it OVERWRITES although its element is held").then("""
            put(0, -1, 0, 2, 0) -> 0
            insert(0, 0, 0, 0, 1) -> 1
            set(0, 0, 0, 0, 2) -> 2
            set(0, 0, 0, 0, 3) -> 3
            give(0, 1) -> 1
            give(1, 1) -> 1
            give(3, 1) -> 0
            worth(1, 0, 0) -> 1
            give(2, 1) -> 2
            worth(1, 0, 0) -> 3
            """);
    }

    private static void whatADropOverwrites() {
        new Run("a DROP of an element WAITS for what it OVERWRITES").then("""
            put(0, -1, 0, 2, 0) -> 0
            insert(0, 0, 0, 0, 1) -> 1
            set(0, 0, 0, 0, 2) -> 2
            drop(0, 0, 0) -> 3
            give(0, 1) -> 1
            give(1, 1) -> 1
            give(3, 1) -> 0
            size(1, 0) -> 1
            give(2, 1) -> 2
            size(1, 0) -> 0
            """);
        new Run("a DROP of a key WAITS for what it OVERWRITES").then("""
            put(0, -1, 0, 0, 1) -> 0
            drop(0, -1, 0) -> 1
            operation(1, 8) -> 1
            give(1, 1) -> 0
            count(2, 1) -> 1
            give(0, 1) -> 2
            size(1, -1) -> 0
            count(1, 1) -> 2
            """);
    }

    private static void whatAnAddGoesTo() {
        new Run("an ADD to a key WAITS for what it goes to").then("""
            put(0, -1, 0, 0, 1) -> 0
            add(0, -1, 0, 2) -> 1
            operation(1, 8) -> 1
            give(1, 1) -> 0
            count(2, 1) -> 1
            give(0, 1) -> 2
            worth(1, -1, 0) -> 3
            """);
        new Run("an ADD to an element WAITS for what it goes to although the element is held").then("""
            put(0, -1, 0, 2, 0) -> 0
            insert(0, 0, 0, 0, 1) -> 1
            set(0, 0, 0, 0, 10) -> 2
            add(0, 0, 0, 5) -> 3
            operation(3, 8) -> 3
            give(0, 1) -> 1
            give(1, 1) -> 1
            give(3, 1) -> 0
            worth(1, 0, 0) -> 1
            give(2, 1) -> 2
            worth(1, 0, 0) -> 15
            """);
    }

    private static void whatIsNoCause() {
        new Run("earlier ones of its REPLICA are no CAUSES").then("""
            put(0, -1, 0, 0, 1) -> 0
            put(0, -1, 1, 0, 2) -> 1
            put(0, -1, 2, 0, 3) -> 2
            give(2, 1) -> 1
            count(2, 1) -> 0
            give(0, 1) -> 1
            count(1, 1) -> 2
            """);
        new Run("ADDS to what it OVERWRITES, and what OVERWRITES its OBJECT, are no CAUSES").then("""
            put(0, -1, 0, 1, 0) -> 0
            put(0, 0, 0, 0, 1) -> 1
            add(0, 0, 0, 1) -> 2
            drop(0, -1, 0) -> 3
            put(0, 0, 0, 0, 2) -> 4
            operation(4, 8) -> 2
            give(0, 1) -> 1
            give(1, 1) -> 1
            give(4, 1) -> 1
            worth(1, 0, 0) -> 2
            size(1, -1) -> 1
            """);
        new Run("what was OVERWRITTEN before is no CAUSE").then("""
            put(0, -1, 0, 0, 1) -> 0
            drop(0, -1, 0) -> 1
            put(0, -1, 0, 0, 2) -> 2
            operation(2, 8) -> 0
            give(2, 1) -> 1
            worth(1, -1, 0) -> 2
            give(0, 1) -> 1
            look(1, -1, 0, 2) -> 2
            give(1, 1) -> 1
            look(1, -1, 0, 2) -> 1
            """);
    }

    private static void gotWhatIsHeld() {
        new Run("what it holds it does not get again").then("""
            put(0, -1, 0, 0, 1) -> 0
            add(0, -1, 0, 10) -> 1
            give(0, 0) -> 0
            give(1, 0) -> 0
            worth(0, -1, 0) -> 11
            count(1, 0) -> 2
            count(2, 0) -> 0
            sync(0, 1) -> 2
            sync(0, 1) -> 0
            give(1, 1) -> 0
            worth(1, -1, 0) -> 11
            count(1, 1) -> 2
            """);
    }

    private static void gotWhatWaits() {
        new Run("what it gets again while it WAITS there WAITS once").then("""
            put(0, -1, 0, 0, 1) -> 0
            add(0, -1, 0, 10) -> 1
            give(1, 1) -> 0
            give(1, 1) -> 0
            count(2, 1) -> 1
            give(0, 1) -> 2
            count(1, 1) -> 2
            count(2, 1) -> 0
            worth(1, -1, 0) -> 11
            give(1, 2) -> 0
            sync(0, 2) -> 2
            count(1, 2) -> 2
            count(2, 2) -> 0
            worth(2, -1, 0) -> 11
            """);
    }

    private static void heldIfAllCausesAre() {
        new Run("held if all its CAUSES are held").then("""
            put(0, -1, 0, 1, 0) -> 0
            put(0, 0, 0, 0, 1) -> 1
            drop(0, 0, 0) -> 2
            give(0, 1) -> 1
            give(1, 1) -> 1
            give(2, 1) -> 1
            count(2, 1) -> 0
            size(1, 0) -> 0
            """);
        new Run("a CAUSE that WAITS is not held").then("""
            put(0, -1, 0, 1, 0) -> 0
            put(0, 0, 0, 1, 0) -> 1
            put(0, 1, 0, 0, 1) -> 2
            give(1, 1) -> 0
            give(2, 1) -> 0
            count(1, 1) -> 0
            count(2, 1) -> 2
            """);
    }

    private static void heldThenToo() {
        new Run("when one is held, those that WAIT for it are held then, too").then("""
            put(0, -1, 0, 1, 0) -> 0
            put(0, 0, 0, 0, 1) -> 1
            put(0, 0, 1, 0, 2) -> 2
            put(0, 0, 2, 0, 3) -> 3
            give(3, 1) -> 0
            give(1, 1) -> 0
            give(0, 1) -> 3
            count(1, 1) -> 3
            count(2, 1) -> 0
            size(1, 0) -> 2
            give(2, 1) -> 1
            """);
    }

    private static void asLongAsThereAreSuch() {
        Run backwards = new Run("as long as there are such: a chain that comes backwards")
            .then("put(0, -1, 0, 2, 0) -> 0")
            .each(1, 200, "insert(0, 0, #-, 0, #) -> #");
        for (int i = 199; i > 0; i--) {
            backwards.then("give(" + i + ", 1) -> 0");
        }
        backwards.then("count(2, 1) -> 199\n count(1, 1) -> 0\n give(0, 1) -> 200\n count(2, 1) -> 0")
            .then("size(1, 0) -> 199\n worth(1, 0, 198) -> 199\n same(0, 1) -> true");
        new Run("as long as there are such: a chain whose first one comes last")
            .then("put(0, -1, 0, 1, 0) -> 0")
            .each(1, 200, "put(0, #-, 0, 1, 0) -> #")
            .each(1, 200, "give(#, 3) -> 0")
            .then("count(2, 3) -> 199\n give(0, 3) -> 200\n count(2, 3) -> 0\n same(0, 3) -> true\n count(3, 3) -> 200");
    }

    private static void severalAtOnce() {
        new Run("a sync frees what WAITED, and it is counted").then("""
            put(0, -1, 0, 1, 0) -> 0
            sync(0, 1) -> 1
            put(0, 0, 0, 0, 1) -> 1
            add(0, 0, 0, 5) -> 2
            give(2, 2) -> 0
            give(1, 2) -> 0
            sync(1, 2) -> 3
            worth(2, 0, 0) -> 6
            count(2, 2) -> 0
            """);
    }

    private static void oneCauseOfSeveral() {
        new Run("one of several CAUSES does not free it").then("""
            put(0, -1, 0, 0, 1) -> 0
            put(1, -1, 0, 0, 2) -> 1
            put(2, -1, 0, 0, 3) -> 2
            sync(1, 0) -> 1
            sync(2, 0) -> 1
            put(0, -1, 0, 0, 4) -> 3
            operation(3, 8) -> 3
            give(3, 4) -> 0
            give(0, 4) -> 1
            count(2, 4) -> 1
            give(2, 4) -> 1
            count(2, 4) -> 1
            look(4, -1, 0, 2) -> 2
            give(1, 4) -> 2
            count(2, 4) -> 0
            look(4, -1, 0, 2) -> 1
            """);
    }

    private static void ownOperationsFreeNothing() {
        new Run("what WAITS goes on to WAIT behind edits of its REPLICA").then("""
            put(0, -1, 0, 1, 0) -> 0
            put(0, 0, 0, 0, 1) -> 1
            give(1, 1) -> 0
            put(1, -1, 0, 1, 0) -> 2
            put(1, 2, 0, 0, 7) -> 3
            drop(1, 2, 0) -> 4
            count(1, 1) -> 3
            count(2, 1) -> 1
            size(1, 0) -> NoSuchElementException
            give(0, 1) -> 2
            worth(1, 0, 0) -> 1
            """);
    }

    private static void waitsInItsReplicaAlone() {
        new Run("what WAITS in one REPLICA does not WAIT in others").then("""
            put(0, -1, 0, 1, 0) -> 0
            put(0, 0, 0, 0, 1) -> 1
            give(1, 1) -> 0
            count(2, 1) -> 1
            count(2, 0) -> 0
            count(2, 2) -> 0
            give(0, 2) -> 1
            count(1, 2) -> 1
            count(2, 1) -> 1
            sync(1, 2) -> 0
            count(1, 2) -> 1
            """);
    }
}
