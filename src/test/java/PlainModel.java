import java.util.ArrayList;
import java.util.Comparator;
import java.util.List;
import java.util.NoSuchElementException;
import java.util.Set;
import java.util.TreeSet;

/**
 * The document's terms written down word by word, without a thought of speed: all is worked out
 * anew from the sets of operations that are held. RandomRunsTest compares WeaveDesk with it.
 */
final class PlainModel {
    private static final int PUT = 0, INSERT = 1, SET = 2, DROP = 3, ADD = 4;

    private record Op(int number, int kind, int count, int replica, int object, int place,
            int valueKind, long v, Set<Integer> overwrites, int goesTo) {
    }

    private final List<Op> ops = new ArrayList<>();
    private final List<Set<Integer>> held = new ArrayList<>();
    private final List<Set<Integer>> waits = new ArrayList<>();

    PlainModel() {
        for (int i = 0; i < 6; i++) {
            held.add(new TreeSet<>());
            waits.add(new TreeSet<>());
        }
    }

    int put(int replica, int object, int key, int kind, long v) {
        argument(isReplica(replica) && key >= 0 && key <= 15 && kind >= 0 && kind <= 2);
        element(isKnown(replica, object) && isMap(object));
        index(ops.size() < 300);
        return make(replica, PUT, object, key, kind, v, live(replica, object, key), -1);
    }

    int insert(int replica, int object, int index, int kind, long v) {
        argument(isReplica(replica) && kind >= 0 && kind <= 2);
        element(isKnown(replica, object) && !isMap(object));
        List<Integer> there = there(replica, object);
        index(index >= 0 && index <= there.size() && ops.size() < 300);
        int behind = index == 0 ? -1 : there.get(index - 1);
        return make(replica, INSERT, object, behind, kind, v, List.of(), -1);
    }

    int set(int replica, int object, int index, int kind, long v) {
        argument(isReplica(replica) && kind >= 0 && kind <= 2);
        element(isKnown(replica, object) && !isMap(object));
        int place = place(replica, object, index);
        index(ops.size() < 300);
        return make(replica, SET, object, place, kind, v, live(replica, object, place), -1);
    }

    int drop(int replica, int object, int where) {
        int place = checkedPlace(replica, object, where);
        index(ops.size() < 300);
        return make(replica, DROP, object, place, -1, 0, live(replica, object, place), -1);
    }

    int add(int replica, int object, int where, long v) {
        int place = checkedPlace(replica, object, where);
        Op winner = live(replica, object, place).get(0);
        if (winner.valueKind() != 0) {
            throw new UnsupportedOperationException();
        }
        index(ops.size() < 300);
        return make(replica, ADD, object, place, -1, v, List.of(), winner.number());
    }

    int sync(int from, int to) {
        argument(isReplica(from) && isReplica(to));
        return deliver(new TreeSet<>(held.get(from)), to);
    }

    int give(int operation, int to) {
        argument(isReplica(to));
        index(operation >= 0 && operation < ops.size());
        return deliver(Set.of(operation), to);
    }

    int size(int replica, int object) {
        argument(isReplica(replica));
        element(isKnown(replica, object));
        return there(replica, object).size();
    }

    int look(int replica, int object, int where, int what) {
        argument(isReplica(replica) && what >= 0 && what <= 3);
        int place = checkedPlace(replica, object, where);
        List<Op> live = live(replica, object, place);
        return switch (what) {
            case 0 -> live.get(0).valueKind();
            case 1 -> live.get(0).number();
            case 2 -> live.size();
            default -> place;
        };
    }

    long worth(int replica, int object, int where) {
        int place = checkedPlace(replica, object, where);
        Op winner = live(replica, object, place).get(0);
        if (winner.valueKind() != 0) {
            throw new UnsupportedOperationException();
        }
        return worthOf(replica, winner);
    }

    int value(int replica, int object, int where, int n) {
        List<Op> live = live(replica, object, checkedPlace(replica, object, where));
        index(n >= 0 && n < live.size());
        return live.get(n).number();
    }

    int operation(int n, int what) {
        argument(what >= 0 && what <= 8);
        index(n >= 0 && n < ops.size());
        Op op = ops.get(n);
        return switch (what) {
            case 0 -> op.kind();
            case 1 -> op.count();
            case 2 -> op.replica();
            case 3 -> op.object();
            case 4 -> op.place();
            case 5 -> op.valueKind();
            case 6 -> op.overwrites().size();
            case 7 -> op.goesTo();
            default -> causes(op).size();
        };
    }

    boolean same(int a, int b) {
        argument(isReplica(a) && isReplica(b));
        return shown(a, -1).equals(shown(b, -1));
    }

    int count(int what, int r) {
        argument(what >= 0 && what <= 4 && isReplica(r));
        return switch (what) {
            case 0 -> ops.size();
            case 1 -> held.get(r).size();
            case 2 -> waits.get(r).size();
            case 3 -> greatestCount(r);
            default -> reached(r, -1);
        };
    }

    private static void argument(boolean right) {
        if (!right) {
            throw new IllegalArgumentException();
        }
    }

    private static void element(boolean right) {
        if (!right) {
            throw new NoSuchElementException();
        }
    }

    private static void index(boolean right) {
        if (!right) {
            throw new IndexOutOfBoundsException();
        }
    }

    private static boolean isReplica(int replica) {
        return replica >= 0 && replica <= 5;
    }

    private boolean isKnown(int replica, int object) {
        return object == -1 || held.get(replica).contains(object) && ops.get(object).valueKind() > 0;
    }

    private boolean isMap(int object) {
        return object == -1 || ops.get(object).valueKind() == 1;
    }

    private int checkedPlace(int replica, int object, int where) {
        argument(isReplica(replica));
        element(isKnown(replica, object));
        return place(replica, object, where);
    }

    private int place(int replica, int object, int where) {
        List<Integer> there = there(replica, object);
        if (isMap(object)) {
            index(there.contains(where));
            return where;
        }
        index(where >= 0 && where < there.size());
        return there.get(where);
    }

    private int greatestCount(int replica) {
        return held.get(replica).stream().mapToInt(n -> ops.get(n).count()).max().orElse(0);
    }

    private int make(int replica, int kind, int object, int place, int valueKind, long v,
            List<Op> overwritten, int goesTo) {
        Set<Integer> overwrites = new TreeSet<>();
        overwritten.forEach(o -> overwrites.add(o.number()));
        int number = ops.size();
        ops.add(new Op(number, kind, greatestCount(replica) + 1, replica, object, place, valueKind, v,
                overwrites, goesTo));
        held.get(replica).add(number);
        return number;
    }

    private Set<Integer> causes(Op op) {
        Set<Integer> causes = new TreeSet<>(op.overwrites());
        causes.add(op.object());
        if (!isMap(op.object())) {
            causes.add(op.place());
        }
        causes.add(op.goesTo());
        causes.remove(-1);
        return causes;
    }

    private int deliver(Set<Integer> numbers, int to) {
        Set<Integer> holds = held.get(to);
        int before = holds.size();
        for (int n : numbers) {
            if (!holds.contains(n)) {
                waits.get(to).add(n);
            }
        }
        boolean more = true;
        while (more) {
            Set<Integer> ready = new TreeSet<>(waits.get(to));
            ready.removeIf(n -> !holds.containsAll(causes(ops.get(n))));
            holds.addAll(ready);
            waits.get(to).removeAll(ready);
            more = !ready.isEmpty();
        }
        return holds.size() - before;
    }

    private static Comparator<Op> greatestStampFirst() {
        return Comparator.comparingInt(Op::count).thenComparingInt(Op::replica).reversed();
    }

    private List<Op> live(int replica, int object, int place) {
        List<Op> live = new ArrayList<>();
        for (int n : held.get(replica)) {
            Op op = ops.get(n);
            boolean here = op.kind() == INSERT ? n == place : op.kind() <= SET && op.place() == place;
            if (op.object() == object && here && !isOverwritten(replica, n)) {
                live.add(op);
            }
        }
        live.sort(greatestStampFirst());
        return live;
    }

    private boolean isOverwritten(int replica, int n) {
        return held.get(replica).stream().anyMatch(o -> ops.get(o).overwrites().contains(n));
    }

    private List<Integer> there(int replica, int object) {
        List<Integer> places = new ArrayList<>();
        if (isMap(object)) {
            for (int key = 0; key < 16; key++) {
                places.add(key);
            }
        } else {
            orderBehind(replica, object, -1, places);
        }
        places.removeIf(p -> live(replica, object, p).isEmpty());
        return places;
    }

    private void orderBehind(int replica, int object, int behind, List<Integer> order) {
        List<Op> next = new ArrayList<>();
        for (int n : held.get(replica)) {
            Op op = ops.get(n);
            if (op.kind() == INSERT && op.object() == object && op.place() == behind) {
                next.add(op);
            }
        }
        next.sort(greatestStampFirst());
        for (Op op : next) {
            order.add(op.number());
            orderBehind(replica, object, op.number(), order);
        }
    }

    private long worthOf(int replica, Op number) {
        long worth = number.v();
        for (int n : held.get(replica)) {
            if (ops.get(n).goesTo() == number.number()) {
                worth += ops.get(n).v();
            }
        }
        return worth;
    }

    private String shown(int replica, int object) {
        StringBuilder text = new StringBuilder(isMap(object) ? "{" : "[");
        for (int place : there(replica, object)) {
            Op winner = live(replica, object, place).get(0);
            text.append(isMap(object) ? place + ":" : "");
            text.append(winner.valueKind() == 0 ? "" + worthOf(replica, winner) : shown(replica, winner.number()));
            text.append(",");
        }
        return text.append(isMap(object) ? "}" : "]").toString();
    }

    private int reached(int replica, int object) {
        int reached = 1;
        for (int place : there(replica, object)) {
            Op winner = live(replica, object, place).get(0);
            reached += winner.valueKind() == 0 ? 0 : reached(replica, winner.number());
        }
        return reached;
    }
}
