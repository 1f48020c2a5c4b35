import com.sun.management.ThreadMXBean;
import java.lang.management.ManagementFactory;

/** The room that runs of 512 calls on one object take: some 600,000 objects, 7.3 million fields and elements in all. */
public final class RoomTest {
    private static final int CALLS_OF_AN_OBJECT = 512;
    private static final long ROOM = 600_000L * 16 + 7_300_000L * 8;

    private static final Check CHECK = new Check();
    private static final ThreadMXBean THREADS = (ThreadMXBean) ManagementFactory.getThreadMXBean();

    private final AnyOrder x = new AnyOrder();
    private int calls;

    public static void main(String[] args) {
        long before = taken();
        new RoomTest().closures();
        before = spent("closures", before);
        new RoomTest().lengths();
        before = spent("lengths", before);
        new RoomTest().tablesAndWords();
        before = spent("tables and words", before);
        new RoomTest().sheets();
        spent("sheets", before);
        CHECK.end();
    }

    private static long taken() {
        return THREADS.getThreadAllocatedBytes(Thread.currentThread().getId());
    }

    private static long spent(String what, long before) {
        long bytes = taken() - before;
        CHECK.holds(what + " take " + bytes + " bytes", bytes < ROOM);
        return taken();
    }

    private boolean hasLeft(int wanted) {
        calls += wanted;
        return calls <= CALLS_OF_AN_OBJECT;
    }

    private void fill(int... cells) {
        x.sheet(0, 2, cells.length);
        for (int i = 0; i < cells.length; i++) {
            x.put(0, i, cells[i]);
        }
        calls += 1 + cells.length;
    }

    /** Each CLOSURE is another one: 1600 products, or more than 2000. */
    private void closures() {
        fill(6, 0, 0, 1, 0, 0, 6);
        for (int m = 41; hasLeft(4); m = m == 41 ? 83 : 41) {
            x.begin(2, m);
            x.table(0, 2, 0);
            x.table(0, 2, 3);
            CHECK.due("close()", x.close(), m == 41 ? 1600 : -6);
        }
    }

    /** Each time the WORDS are others; 16384 of them at the most. */
    private void lengths() {
        fill(1, 1, 1, 1, 1, 1, 1);
        for (int t = 0; hasLeft(1) && t < 4; t++) {
            CHECK.due("table", x.table(0, 2, t), t);
        }
        for (int i = 0; hasLeft(2); i++) {
            CHECK.due("may", x.may(0, 0, i % 2 == 1), 1);
            CHECK.holds("length", x.length(i % 8 == 1 ? 7 : 4, 1) > 0);
        }
    }

    private void tablesAndWords() {
        fill(0, 1, 1, 0, 1, 0, 0, 1);
        while (hasLeft(17)) {
            x.begin(2, 0);
            for (int t = 0; t < 6; t++) {
                x.table(0, 2, t % 5);
            }
            for (int w = 0; w < 10; w++) {
                CHECK.due("word", x.word(0, 2, 0, 8), w);
            }
        }
    }

    private void sheets() {
        for (int i = 0; hasLeft(1); i++) {
            CHECK.due("sheet", x.sheet(i % 4, i % 3, 40), 1);
        }
    }
}
