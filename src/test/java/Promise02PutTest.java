/** Promise 2: put. */
public final class Promise02PutTest {
    public static void main(String[] args) {
        putsOneAfterAnother();
        putsAtTheSameTime();
        putsInsideMaps();
        lateGreaterCountWins();
        manyLiveValues();
        noReplica();
        noKey();
        noKind();
        anyNumber();
        vIsLookedAtForNumberAlone();
        objectIsNotKnown();
        objectIsNoMap();
        thereAre300();
        thereAre300OfAllReplicas();
        Run.end();
    }

    private static void putsOneAfterAnother() {
        new Run("puts one after another").then("""
            put(0, -1, 0, 0, 5) -> 0
            put(0, -1, 15, 0, -9223372036854775808) -> 1
            put(0, -1, 0, 0, 7) -> 2
            size(0, -1) -> 2
            worth(0, -1, 0) -> 7
            worth(0, -1, 15) -> -9223372036854775808
            look(0, -1, 0, 1) -> 2
            look(0, -1, 0, 2) -> 1
            operation(2, 0) -> 0
            operation(2, 1) -> 3
            operation(2, 6) -> 1
            count(1, 0) -> 3
            count(1, 1) -> 0
            size(1, -1) -> 0
            """);
    }

    private static void putsAtTheSameTime() {
        new Run("puts at the same time").then("""
            put(2, -1, 4, 0, 20) -> 0
            put(1, -1, 4, 0, 10) -> 1
            put(5, -1, 4, 0, 50) -> 2
            sync(1, 2) -> 1
            sync(5, 2) -> 1
            sync(2, 1) -> 2
            look(1, -1, 4, 2) -> 3
            worth(1, -1, 4) -> 50
            value(1, -1, 4, 1) -> 0
            value(1, -1, 4, 2) -> 1
            put(1, -1, 4, 0, 11) -> 3
            operation(3, 6) -> 3
            operation(3, 1) -> 2
            look(1, -1, 4, 2) -> 1
            worth(1, -1, 4) -> 11
            look(2, -1, 4, 2) -> 3
            """);
    }

    private static void putsInsideMaps() {
        new Run("puts inside maps; v is not looked at").then("""
            put(0, -1, 1, 1, 77) -> 0
            put(0, 0, 1, 1, 78) -> 1
            put(0, 1, 1, 0, 3) -> 2
            look(0, -1, 1, 0) -> 1
            size(0, 0) -> 1
            size(0, 1) -> 1
            worth(0, 1, 1) -> 3
            worth(0, -1, 1) -> UnsupportedOperationException
            operation(2, 3) -> 1
            put(0, -1, 1, 0, 9) -> 3
            size(0, 0) -> 1
            put(0, 0, 2, 2, 0) -> 4
            size(0, 0) -> 2
            size(0, -1) -> 1
            worth(0, 1, 1) -> 3
            """);
    }

    private static void lateGreaterCountWins() {
        new Run("a greater count wins over a greater replica").then("""
            put(0, -1, 0, 0, 1) -> 0
            put(0, -1, 1, 0, 2) -> 1
            put(5, -1, 1, 0, 3) -> 2
            sync(0, 5) -> 2
            worth(5, -1, 1) -> 2
            value(5, -1, 1, 1) -> 2
            count(3, 5) -> 2
            put(5, -1, 7, 0, 4) -> 3
            operation(3, 1) -> 3
            """);
    }

    private static void manyLiveValues() {
        Run run = new Run("a value that is put again behind a drop does not overwrite");
        for (int i = 0; i < 40; i++) {
            run.then("put(0, -1, 0, 0, V) -> N\n give(N, 1) -> 1\n drop(0, -1, 0) -> M"
                    .replace("V", "" + i).replace("N", "" + 2 * i).replace("M", "" + (2 * i + 1)));
        }
        run.then("""
            look(1, -1, 0, 2) -> 40
            value(1, -1, 0, 39) -> 0
            put(1, -1, 0, 0, 9) -> 80
            operation(80, 6) -> 40
            operation(80, 8) -> 40
            look(1, -1, 0, 2) -> 1
            sync(1, 0) -> 1
            worth(0, -1, 0) -> 9
            """);
    }

    private static void noReplica() {
        new Run("there is no replica (first of all)")
            .then("put(0, -1, 0, 0, 1) -> 0\n put(5, -1, 0, 0, 1) -> 1")
            .refuses("IllegalArgumentException", """
                put(-1, -1, 0, 0, 1)
                put(6, -1, 0, 0, 1)
                put(MIN, -1, 0, 0, 1)
                put(MAX, -1, 0, 0, 1)
                put(6, 9, 0, 0, 1)
                put(-1, 9, 16, 3, 1)
                """);
    }

    private static void noKey() {
        new Run("there is no key")
            .then("put(0, -1, 0, 0, 1) -> 0\n put(0, -1, 15, 0, 1) -> 1")
            .refuses("IllegalArgumentException", """
                put(0, -1, -1, 0, 1)
                put(0, -1, 16, 0, 1)
                put(0, -1, MIN, 0, 1)
                put(0, -1, MAX, 0, 1)
                put(0, 9, 16, 0, 1)
                """);
    }

    private static void noKind() {
        new Run("there is no kind (0..2)")
            .then("put(0, -1, 0, 0, 1) -> 0\n put(0, -1, 0, 2, 1) -> 1\n look(0, -1, 0, 0) -> 2")
            .refuses("IllegalArgumentException", """
                put(0, -1, 0, -1, 1)
                put(0, -1, 0, 3, 1)
                put(0, -1, 0, MIN, 1)
                put(0, -1, 0, MAX, 1)
                put(0, 9, 0, 3, 1)
                """);
    }

    private static void anyNumber() {
        new Run("v is any number of 64 bits").then("""
            put(0, -1, 0, 0, MIN) -> 0
            put(0, -1, 1, 0, MAX) -> 1
            put(0, -1, 2, 0, 0) -> 2
            worth(0, -1, 0) -> -9223372036854775808
            worth(0, -1, 1) -> 9223372036854775807
            worth(0, -1, 2) -> 0
            """);
    }

    private static void vIsLookedAtForNumberAlone() {
        new Run("v is looked at for NUMBER alone").then("""
            put(0, -1, 0, 1, MIN) -> 0
            put(1, -1, 0, 1, MAX) -> 1
            put(0, -1, 1, 2, -1) -> 2
            put(1, -1, 1, 2, 16) -> 3
            same(0, 1) -> true
            size(0, 0) -> 0
            size(1, 3) -> 0
            worth(0, -1, 0) -> UnsupportedOperationException
            """);
    }

    private static void objectIsNotKnown() {
        new Run("the REPLICA does not know this OBJECT")
            .then("put(0, -1, 0, 1, 0) -> 0\n put(0, -1, 1, 0, 0) -> 1\n add(0, -1, 1, 1) -> 2\n drop(0, -1, 1) -> 3")
            .then("put(1, -1, 0, 1, 0) -> 4\n put(1, 4, 0, 1, 0) -> 5\n give(5, 0) -> 0")
            .refuses("NoSuchElementException", """
                put(0, -2, 0, 0, 1)
                put(0, 1, 0, 0, 1)
                put(0, 2, 0, 0, 1)
                put(0, 3, 0, 0, 1)
                put(0, 4, 0, 0, 1)
                put(0, 5, 0, 0, 1)
                put(0, 6, 0, 0, 1)
                put(0, 300, 0, 0, 1)
                put(0, MIN, 0, 0, 1)
                put(0, MAX, 0, 0, 1)
                put(1, 0, 0, 0, 1)
                """)
            .then("put(0, 0, 0, 0, 1) -> 6\n put(0, -1, 0, 0, 1) -> 7\n put(0, 0, 0, 0, 1) -> 8");
    }

    private static void objectIsNoMap() {
        new Run("or it is no map")
            .then("put(0, -1, 0, 2, 0) -> 0\n insert(0, 0, 0, 2, 0) -> 1\n insert(0, 0, 0, 1, 0) -> 2")
            .refuses("NoSuchElementException", """
                put(0, 0, 0, 0, 1)
                put(0, 1, 0, 0, 1)
                """)
            .then("put(0, 2, 0, 0, 1) -> 3");
    }

    private static void thereAre300() {
        new Run("there are 300")
            .each(0, 300, "put(0, -1, 3, 0, #) -> #")
            .refuses("IndexOutOfBoundsException", """
                put(0, -1, 3, 0, 1)
                put(5, -1, 0, 2, 1)
                """)
            .refuses("IllegalArgumentException", """
                put(6, -1, 3, 0, 1)
                put(0, -1, 16, 0, 1)
                put(0, -1, 3, 3, 1)
                """)
            .refuses("NoSuchElementException", """
                put(0, 300, 3, 0, 1)
                put(0, 299, 3, 0, 1)
                """)
            .then("worth(0, -1, 3) -> 299");
    }

    private static void thereAre300OfAllReplicas() {
        Run run = new Run("there are 300 of all REPLICAS together");
        for (int i = 0; i < 300; i++) {
            run.then("put(" + i % 6 + ", -1, " + i % 16 + ", " + i % 3 + ", 1) -> " + i);
        }
        run.each(0, 6, "count(1, #) -> 50\n count(0, #) -> 300")
            .refuses("IndexOutOfBoundsException", """
                put(0, -1, 0, 0, 1)
                put(5, -1, 15, 1, 1)
                """);
    }
}
