import com.sun.management.ThreadMXBean;
import java.lang.management.ManagementFactory;

/** "All memory is made at first": calls that throw nothing make nothing, and what is made at first is small. */
public final class MemoryTest {
    private static final int OBJECTS = 100;
    private static final ThreadMXBean THREADS = (ThreadMXBean) ManagementFactory.getThreadMXBean();

    public static void main(String[] args) {
        Check check = new Check();
        // The first use may load classes, which is not the object's own memory.
        useAll(new PieceBench());
        PieceBench[] benches = new PieceBench[OBJECTS];
        long atFirst = madeSoFar();
        for (int k = 0; k < OBJECTS; k++) {
            benches[k] = new PieceBench();
        }
        long before = madeSoFar();
        for (PieceBench bench : benches) {
            useAll(bench);
        }
        long made = madeSoFar() - before;
        // Six rows of 1480 ints are 35,520 bytes.
        long ofOne = (before - atFirst) / OBJECTS;
        check.same("the bytes of an object are few: " + ofOne, ofOne < 40000, true);
        // One small object in one kind of call would already make some 64,000 bytes.
        check.same("the bytes made later are few: " + made, made < 20000, true);
        check.end();
    }

    private static long madeSoFar() {
        return THREADS.getThreadAllocatedBytes(Thread.currentThread().getId());
    }

    private static void useAll(PieceBench bench) {
        for (int k = 0; k < 40; k++) {
            bench.feed(k, 8);
            bench.piece(k, 0, 0, 0, 1480);
            bench.feed(k, 1);
            bench.piece(k, 1, 0, 0, 1);
            bench.feed(k, 1);
            bench.piece(k, 0, 0, 0, 2);
            bench.about(3);
            bench.byteAt(0);
            bench.missing(k, 0, 0);
            bench.has(k, 0, 0, 0);
            bench.waiting();
            bench.pass(100);
        }
    }
}
