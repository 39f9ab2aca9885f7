import com.sun.management.ThreadMXBean;
import java.lang.management.ManagementFactory;

/**
 * What the dearest runs of 512 calls make stays far below the room of 600,000 objects and 7.3 million
 * fields and elements. An object takes 16 bytes or more and an element one or more, so a run below a
 * million bytes has fewer than 62,500 objects and fewer than a million elements.
 */
public final class RoomTest {
    private static final long MOST_BYTES = 1_000_000;
    private static final int EDITS = 300;
    private static final ThreadMXBean MEMORY = (ThreadMXBean) ManagementFactory.getThreadMXBean();
    private static int wrong = 0;

    private interface Edit {
        void make(WeaveDesk desk, int i);
    }

    public static void main(String[] args) {
        measure("maps in maps", RoomTest::nestMap);
        measure("lists in a list", RoomTest::insertList);
        measure("sets of one element", RoomTest::setElement);
        measure("puts, adds and drops", RoomTest::putAddDrop);
        measure("puts of six replicas", RoomTest::putOfSix);
        if (wrong != 0) {
            System.exit(1);
        }
    }

    private static void measure(String name, Edit edit) {
        // What is made once, when the classes are loaded, is not the run's.
        makeRun(edit);
        long before = MEMORY.getCurrentThreadAllocatedBytes();
        WeaveDesk desk = makeRun(edit);
        long bytes = MEMORY.getCurrentThreadAllocatedBytes() - before;
        int made = desk.count(0, 0);
        System.out.println(name + ": " + made + " operations, " + bytes + " bytes");
        wrong += made == EDITS && bytes > 0 && bytes < MOST_BYTES ? 0 : 1;
    }

    private static WeaveDesk makeRun(Edit edit) {
        WeaveDesk desk = new WeaveDesk();
        for (int i = 0; i < EDITS; i++) {
            edit.make(desk, i);
        }
        for (int i = EDITS; i < Run.MOST_CALLS - 1; i++) {
            deliverOrRead(desk, i);
        }
        return desk;
    }

    private static void nestMap(WeaveDesk desk, int i) {
        desk.put(0, i - 1, 0, WeaveDesk.MAP, 0);
    }

    private static void insertList(WeaveDesk desk, int i) {
        if (i == 0) {
            desk.put(0, -1, 0, WeaveDesk.LIST, 0);
        } else {
            desk.insert(0, 0, i - 1, WeaveDesk.LIST, 0);
        }
    }

    private static void setElement(WeaveDesk desk, int i) {
        if (i < 2) {
            insertList(desk, i);
        } else {
            desk.set(0, 0, 0, WeaveDesk.LIST, 0);
        }
    }

    private static void putAddDrop(WeaveDesk desk, int i) {
        switch (i % 3) {
            case 0 -> desk.put(0, -1, i % 16, WeaveDesk.NUMBER, i);
            case 1 -> desk.add(0, -1, (i - 1) % 16, i);
            default -> desk.drop(0, -1, (i - 2) % 16);
        }
    }

    private static void putOfSix(WeaveDesk desk, int i) {
        desk.put(i % 6, -1, i / 6 % 16, WeaveDesk.MAP, 0);
    }

    private static void deliverOrRead(WeaveDesk desk, int i) {
        switch (i % 8) {
            case 0 -> desk.sync(0, 1);
            case 1 -> desk.give(i - EDITS, 2);
            case 2 -> desk.same(0, 0);
            case 3 -> desk.count(4, 0);
            case 4 -> desk.size(0, -1);
            case 5 -> desk.operation(i - EDITS, 8);
            case 6 -> desk.same(0, 1);
            default -> desk.sync(1, 3);
        }
    }
}
