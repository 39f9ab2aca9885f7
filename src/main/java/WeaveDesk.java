import java.util.NoSuchElementException;

/**
 * A document of maps, lists and numbers that six replicas change on their own; who holds the same
 * operations shows the same document. Words in capitals are those of the document's terms.
 */
public final class WeaveDesk {
    public static final int NUMBER = 0, MAP = 1, LIST = 2;

    private static final int PUT = 0, INSERT = 1, SET = 2, DROP = 3, ADD = 4;
    private static final int REPLICAS = 6;
    private static final int KEYS = 16;
    private static final int MOST_OPERATIONS = 300;
    /** The ROOT's name, the front of a list, and the answer where there is no VALUE or target. */
    private static final int NONE = -1;

    private final Operation[] operations = new Operation[MOST_OPERATIONS];
    private final Replica[] replicas = new Replica[REPLICAS];
    private final Container root = new Container(NONE, MAP);
    private final Walk walk = new Walk();
    private int made;

    public WeaveDesk() {
        for (int i = 0; i < REPLICAS; i++) {
            replicas[i] = new Replica(i);
        }
    }

    public int put(int replica, int object, int key, int kind, long v)
            throws IllegalArgumentException, NoSuchElementException, IndexOutOfBoundsException {
        Replica maker = replicaNamed(replica);
        if (key < 0 || key >= KEYS) {
            throw new IllegalArgumentException("no such key");
        }
        checkValueKind(kind);
        Container map = knownOfKind(maker, object, MAP);
        checkRoomForOneMore();
        Operation fresh = begin(PUT, maker, map, key);
        fresh.carryValue(kind, v);
        return finishOverwriting(fresh, maker, map.placeOfKey(key));
    }

    public int insert(int replica, int object, int index, int kind, long v)
            throws IllegalArgumentException, NoSuchElementException, IndexOutOfBoundsException {
        Replica maker = replicaNamed(replica);
        checkValueKind(kind);
        Container list = knownOfKind(maker, object, LIST);
        Place behind = index == 0 ? null : placeThere(maker, list, index - 1);
        checkRoomForOneMore();
        Operation fresh = begin(INSERT, maker, list, behind == null ? NONE : behind.name);
        fresh.carryValue(kind, v);
        list.weaveIn(fresh, behind);
        return finish(fresh, maker);
    }

    public int set(int replica, int object, int index, int kind, long v)
            throws IllegalArgumentException, NoSuchElementException, IndexOutOfBoundsException {
        Replica maker = replicaNamed(replica);
        checkValueKind(kind);
        Container list = knownOfKind(maker, object, LIST);
        Place place = placeThere(maker, list, index);
        checkRoomForOneMore();
        Operation fresh = begin(SET, maker, list, place.name);
        fresh.carryValue(kind, v);
        return finishOverwriting(fresh, maker, place);
    }

    public int drop(int replica, int object, int place)
            throws IllegalArgumentException, NoSuchElementException, IndexOutOfBoundsException {
        Replica maker = replicaNamed(replica);
        Container container = known(maker, object);
        Place dropped = placeThere(maker, container, place);
        checkRoomForOneMore();
        Operation fresh = begin(DROP, maker, container, dropped.name);
        fresh.overwrites = maker.liveNumbers(dropped);
        return finish(fresh, maker);
    }

    public int add(int replica, int object, int place, long v)
            throws IllegalArgumentException, NoSuchElementException, IndexOutOfBoundsException,
            UnsupportedOperationException {
        Replica maker = replicaNamed(replica);
        Container container = known(maker, object);
        Place raised = placeThere(maker, container, place);
        Operation winner = winningNumber(maker, raised);
        checkRoomForOneMore();
        Operation fresh = begin(ADD, maker, container, raised.name);
        fresh.v = v;
        fresh.goesTo = winner.number;
        return finish(fresh, maker);
    }

    public int sync(int from, int to) throws IllegalArgumentException {
        Replica giver = replicaNamed(from);
        Replica taker = replicaNamed(to);
        for (int i = 0; i < made; i++) {
            if (giver.held[i]) {
                taker.receive(i);
            }
        }
        return holdWhatHasItsCauses(taker);
    }

    public int give(int operation, int to) throws IllegalArgumentException, IndexOutOfBoundsException {
        Replica taker = replicaNamed(to);
        taker.receive(operationNumbered(operation).number);
        return holdWhatHasItsCauses(taker);
    }

    public int size(int replica, int object) throws IllegalArgumentException, NoSuchElementException {
        Replica shower = replicaNamed(replica);
        int there = 0;
        for (Place p = shower.firstThere(known(shower, object).first); p != null; p = shower.firstThere(p.next)) {
            there++;
        }
        return there;
    }

    public int look(int replica, int object, int place, int what)
            throws IllegalArgumentException, NoSuchElementException, IndexOutOfBoundsException {
        Replica shower = replicaNamed(replica);
        if (what < 0 || what > 3) {
            throw new IllegalArgumentException("no such what");
        }
        Place seen = placeThere(shower, known(shower, object), place);
        switch (what) {
            case 0: return liveValueOf(shower, seen, 0).valueKind;
            case 1: return liveValueOf(shower, seen, 0).number;
            case 2: return shower.howManyLive(seen);
            default: return seen.name;
        }
    }

    public long worth(int replica, int object, int place)
            throws IllegalArgumentException, NoSuchElementException, IndexOutOfBoundsException,
            UnsupportedOperationException {
        Replica shower = replicaNamed(replica);
        Place seen = placeThere(shower, known(shower, object), place);
        return shower.worthOf(winningNumber(shower, seen));
    }

    public int value(int replica, int object, int place, int n)
            throws IllegalArgumentException, NoSuchElementException, IndexOutOfBoundsException {
        Replica shower = replicaNamed(replica);
        Place seen = placeThere(shower, known(shower, object), place);
        return liveValueOf(shower, seen, n).number;
    }

    public int operation(int n, int what) throws IllegalArgumentException, IndexOutOfBoundsException {
        if (what < 0 || what > 8) {
            throw new IllegalArgumentException("no such what");
        }
        Operation asked = operationNumbered(n);
        switch (what) {
            case 0: return asked.kind;
            case 1: return asked.count;
            case 2: return asked.replica;
            case 3: return asked.object.name;
            case 4: return asked.place;
            case 5: return asked.valueKind;
            case 6: return asked.overwrites.length;
            case 7: return asked.goesTo;
            default: return asked.causes.length;
        }
    }

    public boolean same(int a, int b) throws IllegalArgumentException {
        Replica left = replicaNamed(a);
        Replica right = replicaNamed(b);
        walk.begin(root, root);
        for (int i = 0; i < walk.length && i <= MOST_OPERATIONS; i++) {
            if (!placesMatch(left, walk.left[i], right, walk.right[i])) {
                return false;
            }
        }
        return true;
    }

    public int count(int what, int r) throws IllegalArgumentException {
        Replica asked = replicaNamed(r);
        switch (what) {
            case 0: return made;
            case 1: return asked.holds;
            case 2: return asked.waiting;
            case 3: return asked.greatestCount;
            case 4: return howManyReached(asked);
            default: throw new IllegalArgumentException("no such what");
        }
    }

    private Replica replicaNamed(int name) {
        if (name < 0 || name >= REPLICAS) {
            throw new IllegalArgumentException("no such replica");
        }
        return replicas[name];
    }

    private Operation operationNumbered(int n) {
        if (n < 0 || n >= made) {
            throw new IndexOutOfBoundsException("no such operation");
        }
        return operations[n];
    }

    private static void checkValueKind(int kind) {
        if (kind < NUMBER || kind > LIST) {
            throw new IllegalArgumentException("no such kind of value");
        }
    }

    private void checkRoomForOneMore() {
        if (made >= MOST_OPERATIONS) {
            throw new IndexOutOfBoundsException("no more operations");
        }
    }

    private Container known(Replica replica, int object) {
        if (object == NONE) {
            return root;
        }
        if (object < 0 || object >= made || !replica.held[object] || operations[object].container == null) {
            throw new NoSuchElementException("the object is not known");
        }
        return operations[object].container;
    }

    private Container knownOfKind(Replica replica, int object, int kind) {
        Container found = known(replica, object);
        if (found.kind != kind) {
            throw new NoSuchElementException("the object is of another kind");
        }
        return found;
    }

    /** The PLACE that is THERE under a key of a map or at an index of a list. */
    private static Place placeThere(Replica replica, Container container, int place) {
        int index = 0;
        for (Place p = replica.firstThere(container.first); p != null; p = replica.firstThere(p.next)) {
            if (place == (container.kind == MAP ? p.name : index)) {
                return p;
            }
            index++;
        }
        throw new IndexOutOfBoundsException("the place is not there");
    }

    private static Operation liveValueOf(Replica replica, Place place, int n) {
        Operation found = replica.liveValue(place, n);
        if (found == null) {
            throw new IndexOutOfBoundsException("no such live value");
        }
        return found;
    }

    private static Operation winningNumber(Replica replica, Place place) {
        Operation winner = liveValueOf(replica, place, 0);
        if (winner.valueKind != NUMBER) {
            throw new UnsupportedOperationException("the winner is no number");
        }
        return winner;
    }

    private Operation begin(int kind, Replica maker, Container object, int place) {
        return new Operation(made, kind, maker, object, place);
    }

    private int finishOverwriting(Operation fresh, Replica maker, Place place) {
        fresh.overwrites = maker.liveNumbers(place);
        place.takeValue(fresh);
        return finish(fresh, maker);
    }

    private int finish(Operation complete, Replica maker) {
        complete.gatherCauses();
        operations[made] = complete;
        made++;
        maker.hold(complete);
        return complete.number;
    }

    /** One pass is enough: an OPERATION's CAUSES have lower numbers than it has. */
    private int holdWhatHasItsCauses(Replica replica) {
        int before = replica.holds;
        for (int i = 0; i < made; i++) {
            if (replica.waits[i] && replica.holdsCausesOf(operations[i])) {
                replica.hold(operations[i]);
            }
        }
        return replica.holds - before;
    }

    private boolean placesMatch(Replica left, Container mine, Replica right, Container other) {
        Place p = left.firstThere(mine.first);
        Place q = right.firstThere(other.first);
        while (p != null && q != null) {
            if (mine.kind == MAP && p.name != q.name) {
                return false;
            }
            if (!winnersMatch(left, left.liveValue(p, 0), right, right.liveValue(q, 0))) {
                return false;
            }
            p = left.firstThere(p.next);
            q = right.firstThere(q.next);
        }
        return p == null && q == null;
    }

    /** Maps and lists of one kind match for now: the walk comes to what is inside them later. */
    private boolean winnersMatch(Replica left, Operation mine, Replica right, Operation other) {
        if (mine == null || other == null || mine.valueKind != other.valueKind) {
            return false;
        }
        if (mine.valueKind == NUMBER) {
            return left.worthOf(mine) == right.worthOf(other);
        }
        walk.visitLater(mine.container, other.container);
        return true;
    }

    private int howManyReached(Replica replica) {
        walk.begin(root, root);
        for (int i = 0; i < walk.length && i <= MOST_OPERATIONS; i++) {
            for (Place p = replica.firstThere(walk.left[i].first); p != null; p = replica.firstThere(p.next)) {
                Operation winner = replica.liveValue(p, 0);
                if (winner != null && winner.container != null) {
                    walk.visitLater(winner.container, winner.container);
                }
            }
        }
        return walk.length;
    }

    /** An OBJECT, as all REPLICAS together know it; each one passes over what it does not hold. */
    private static final class Container {
        final int name;
        final int kind;
        /** A map's PLACES by their keys, a list's in THE ORDER. */
        Place first;

        Container(int name, int kind) {
            this.name = name;
            this.kind = kind;
        }

        Place placeOfKey(int key) {
            Place before = null;
            Place after = first;
            while (after != null && after.name < key) {
                before = after;
                after = after.next;
            }
            if (after != null && after.name == key) {
                return after;
            }
            return link(new Place(key, null), before);
        }

        /**
         * What stands behind an element has a greater STAMP than it, so all with a greater STAMP
         * that follow at once are those before the new one in THE ORDER, with all behind them.
         */
        void weaveIn(Operation insert, Place behind) {
            Place before = behind;
            Place after = behind == null ? first : behind.next;
            while (after != null && after.insert != null && after.insert.hasGreaterStampThan(insert)) {
                before = after;
                after = after.next;
            }
            link(new Place(insert.number, insert), before).takeValue(insert);
        }

        private Place link(Place fresh, Place before) {
            if (before == null) {
                fresh.next = first;
                first = fresh;
            } else {
                fresh.next = before.next;
                before.next = fresh;
            }
            return fresh;
        }
    }

    /** A key of a map or an element of a list. */
    private static final class Place {
        final int name;
        /** What made an element; null for a key. */
        final Operation insert;
        /** All its VALUES, LIVE or not, the greatest STAMP first. */
        Operation firstValue;
        Place next;

        Place(int name, Operation insert) {
            this.name = name;
            this.insert = insert;
        }

        void takeValue(Operation fresh) {
            Operation before = null;
            Operation after = firstValue;
            while (after != null && after.hasGreaterStampThan(fresh)) {
                before = after;
                after = after.nextValue;
            }
            fresh.nextValue = after;
            if (before == null) {
                firstValue = fresh;
            } else {
                before.nextValue = fresh;
            }
        }
    }

    private static final class Operation {
        final int number;
        final int kind;
        final int count;
        final int replica;
        final Container object;
        /** The key, the element, or what it stands behind. */
        final int place;
        int valueKind = NONE;
        long v;
        /** The OBJECT that it makes, if its VALUE is MAP or LIST. */
        Container container;
        int goesTo = NONE;
        int[] overwrites = new int[0];
        int[] causes = new int[0];
        /** The VALUE of the same PLACE with the next lesser STAMP. */
        Operation nextValue;

        Operation(int number, int kind, Replica maker, Container object, int place) {
            this.number = number;
            this.kind = kind;
            this.count = maker.greatestCount + 1;
            this.replica = maker.name;
            this.object = object;
            this.place = place;
        }

        boolean hasGreaterStampThan(Operation other) {
            return count != other.count ? count > other.count : replica > other.replica;
        }

        void carryValue(int valueKind, long v) {
            this.valueKind = valueKind;
            if (valueKind == NUMBER) {
                this.v = v;
            } else {
                container = new Container(number, valueKind);
            }
        }

        /** An element may be OVERWRITTEN, or gone to, by what names it: it is one CAUSE then. */
        void gatherCauses() {
            int element = object.kind == LIST ? place : NONE;
            int[] row = new int[overwrites.length + 3];
            int length = append(row, 0, object.name);
            length = append(row, length, element);
            for (int i = 0; i < overwrites.length; i++) {
                length = append(row, length, overwrites[i] == element ? NONE : overwrites[i]);
            }
            length = append(row, length, goesTo == element ? NONE : goesTo);
            causes = new int[length];
            System.arraycopy(row, 0, causes, 0, length);
        }

        private static int append(int[] row, int length, int cause) {
            if (cause == NONE || length >= row.length) {
                return length;
            }
            row[length] = cause;
            return length + 1;
        }
    }

    private static final class Replica {
        final int name;
        final boolean[] held = new boolean[MOST_OPERATIONS];
        final boolean[] waits = new boolean[MOST_OPERATIONS];
        final boolean[] overwritten = new boolean[MOST_OPERATIONS];
        /** What the ADDS that are held add to each NUMBER. */
        final long[] added = new long[MOST_OPERATIONS];
        int holds;
        int waiting;
        int greatestCount;

        Replica(int name) {
            this.name = name;
        }

        void receive(int number) {
            if (!held[number] && !waits[number]) {
                waits[number] = true;
                waiting++;
            }
        }

        void hold(Operation operation) {
            if (waits[operation.number]) {
                waits[operation.number] = false;
                waiting--;
            }
            held[operation.number] = true;
            holds++;
            greatestCount = Math.max(greatestCount, operation.count);
            for (int i = 0; i < operation.overwrites.length; i++) {
                overwritten[operation.overwrites[i]] = true;
            }
            if (operation.goesTo != NONE) {
                added[operation.goesTo] += operation.v;
            }
        }

        boolean holdsCausesOf(Operation operation) {
            for (int i = 0; i < operation.causes.length; i++) {
                if (!held[operation.causes[i]]) {
                    return false;
                }
            }
            return true;
        }

        boolean isLive(Operation value) {
            return held[value.number] && !overwritten[value.number];
        }

        /** The n-th LIVE VALUE, the WINNER being number 0; null if there is none. */
        Operation liveValue(Place place, int n) {
            int passed = 0;
            for (Operation value = place.firstValue; value != null; value = value.nextValue) {
                if (isLive(value)) {
                    if (passed == n) {
                        return value;
                    }
                    passed++;
                }
            }
            return null;
        }

        int howManyLive(Place place) {
            int live = 0;
            for (Operation value = place.firstValue; value != null; value = value.nextValue) {
                if (isLive(value)) {
                    live++;
                }
            }
            return live;
        }

        int[] liveNumbers(Place place) {
            int[] row = new int[howManyLive(place)];
            int length = 0;
            for (Operation value = place.firstValue; value != null; value = value.nextValue) {
                if (isLive(value) && length < row.length) {
                    row[length] = value.number;
                    length++;
                }
            }
            return row;
        }

        /** The first PLACE of a chain, from a given one on, that is THERE; null if none is. */
        Place firstThere(Place from) {
            for (Place p = from; p != null; p = p.next) {
                if (liveValue(p, 0) != null) {
                    return p;
                }
            }
            return null;
        }

        long worthOf(Operation number) {
            return number.v + added[number.number];
        }
    }

    /**
     * The pairs of OBJECTS that a walk from the ROOT on has come to. The rows are made once for all
     * calls; they are long enough, for each OBJECT stands in one PLACE alone.
     */
    private static final class Walk {
        final Container[] left = new Container[MOST_OPERATIONS + 1];
        final Container[] right = new Container[MOST_OPERATIONS + 1];
        int length;

        void begin(Container mine, Container other) {
            length = 0;
            visitLater(mine, other);
        }

        void visitLater(Container mine, Container other) {
            if (mine != null && other != null && length < left.length) {
                left[length] = mine;
                right[length] = other;
                length++;
            }
        }
    }
}
