import com.sun.management.ThreadMXBean;
import java.lang.management.ManagementFactory;

/** "All memory is made at first": calls that throw nothing make nothing. */
public final class MemoryTest {
    private static final int OBJECTS = 100;
    private static final ThreadMXBean THREADS = (ThreadMXBean) ManagementFactory.getThreadMXBean();

    public static void main(String[] args) {
        Check check = new Check();
        PieceBench[] benches = new PieceBench[OBJECTS];
        for (int k = 0; k < OBJECTS; k++) {
            benches[k] = new PieceBench();
        }
        // The first use may load classes, which is not the object's own memory.
        useAll(new PieceBench());
        long self = Thread.currentThread().getId();
        long before = THREADS.getThreadAllocatedBytes(self);
        for (PieceBench bench : benches) {
            useAll(bench);
        }
        long made = THREADS.getThreadAllocatedBytes(self) - before;
        // One small object in one kind of call would already make some 80,000 bytes.
        check.same("the bytes made are few: " + made, made < 20000, true);
        check.end();
    }

    private static void useAll(PieceBench bench) {
        for (int k = 0; k < 50; k++) {
            bench.feed(k, 8);
            bench.piece(k, 0, 0, 0, 1480);
            bench.feed(k, 1);
            bench.piece(k, 1, 0, 0, 1);
            bench.about(3);
            bench.byteAt(0);
            bench.missing(k, 0, 0);
            bench.has(k, 0, 0, 0);
            bench.waiting();
            bench.pass(100);
        }
    }
}
