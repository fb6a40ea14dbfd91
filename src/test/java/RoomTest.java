import com.sun.management.ThreadMXBean;
import java.lang.management.ManagementFactory;

/** A mill takes its room when it is made: its calls make nothing but the exceptions that they throw. */
public final class RoomTest {
    private static final ThreadMXBean THREADS = (ThreadMXBean) ManagementFactory.getThreadMXBean();

    public static void main(String[] args) {
        long start = taken();
        Bench bench = new Bench();
        Bench.due("a new mill takes at most a megabyte", taken() - start < 1 << 20, true);
        bench.lay(0, "{\"a\":[1,2.50,{\"b\":\"x\\n\"}],\"c\":null}");
        bench.lay(1, "?");
        bench.lay(2, "k");
        calls(bench);
        start = taken();
        for (int i = 0; i < 40; i++) {
            calls(bench);
        }
        // One object a call would take more than twice as much.
        Bench.due("400 calls take next to nothing", taken() - start < 1 << 12, true);
        Bench.end("RoomTest");
    }

    private static long taken() {
        return THREADS.getThreadAllocatedBytes(Thread.currentThread().getId());
    }

    private static void calls(Bench bench) {
        RosettaMill mill = bench.mill;
        mill.read(0, 'b', 0);
        mill.read(0, 'b', 1);
        mill.put(1, 1, 2, 0);
        mill.write(1, 'p', 3);
        mill.select(1, 1);
        mill.floatOf(2);
        mill.merge(0, 1, 0, 2);
        mill.replace(1, 1, 0);
        mill.differences(1, 2);
        mill.sum(2);
        mill.isSound();
    }
}
