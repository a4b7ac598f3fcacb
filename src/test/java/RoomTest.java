import java.lang.management.ManagementFactory;

/** One run's calls live in one room of 7.3 million elements: an object is small, and its calls make nothing. */
public final class RoomTest {
    private static final com.sun.management.ThreadMXBean THREADS =
        (com.sun.management.ThreadMXBean) ManagementFactory.getThreadMXBean();
    private static final long OBJECT_BYTES = 64 * 1024;
    private static final long CALLS_BYTES = 64 * 1024;

    public static void main(String[] args) {
        EdgeEchoes warm = dear();
        everyCall(warm);
        long start = made();
        EdgeEchoes x = new EdgeEchoes();
        long object = made() - start;
        Due.holds("a new object takes " + object, object <= OBJECT_BYTES);
        Due.feed(x, "d0 99;p1 9;p99 9;p1 9;p99 9;p1 9;p99 9;p1 9;p99 9;e1 9;g0 71 50;g1 0 99;g2 35 1;g3 71 1;");
        x.line();
        start = made();
        for (int k = 0; k < 8; k++) {
            everyCall(x);
        }
        long calls = made() - start;
        Due.holds("all calls take " + calls, calls <= CALLS_BYTES);
        Due.end();
    }

    private static long made() {
        return THREADS.getThreadAllocatedBytes(Thread.currentThread().getId());
    }

    private static EdgeEchoes dear() {
        EdgeEchoes x = new EdgeEchoes();
        Due.feed(x, "d0 99;p1 9;p99 9;p1 9;p99 9;p1 9;p99 9;p1 9;p99 9;e1 9;g0 71 50;g1 0 99;g2 35 1;g3 71 1;");
        x.line();
        return x;
    }

    private static int everyCall(EdgeEchoes x) {
        int sum = 0;
        for (int what = 0; what <= 17; what++) {
            sum += x.told(what);
        }
        sum += x.feed(32) + x.fault() + x.wire(7, 2) + x.cell(71, 0) + x.place(71) + x.gate(3, 5);
        sum += x.tick(50) + x.drive(true) + x.cut(5) + x.brief(6) + x.mend(5) + x.mend(6) + x.piece(0, 9) + x.end(2, 9);
        sum += x.ohms(50) + x.quiet() + x.drift(50) + x.undo(3) + x.volts(71, 200, 1) + x.rest(71) + x.sees(3, 200, 1);
        sum += x.noNoise(60, 99) + x.see(150, 0, true) + x.couldBe(0) + x.look() + x.write(0, 0) + x.judge() + x.tear();
        return sum + x.seed(1) + x.keep(0) + x.goBack(0);
    }
}
