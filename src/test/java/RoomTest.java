import java.lang.management.ManagementFactory;

/** The room that a run takes: an object a few thousand bytes, a call nothing. */
public final class RoomTest {
    private static final int CALLS = 512;
    private static final long MOST_BYTES_OF_AN_OBJECT = 10000;
    private static final com.sun.management.ThreadMXBean THREADS =
        (com.sun.management.ThreadMXBean) ManagementFactory.getThreadMXBean();

    private static long sink = 0;

    public static void main(String[] args) {
        taken();
        CosineSeries x = new CosineSeries();
        everyCall(x);
        long before = taken();
        CosineSeries y = new CosineSeries();
        long object = taken() - before;
        Checks.that("an object", object <= MOST_BYTES_OF_AN_OBJECT, "takes " + object + " bytes");
        before = taken();
        for (int i = 0; i + 26 <= CALLS; i += 26) {
            everyCall(y);
        }
        long calls = taken() - before;
        Checks.that("the calls", calls < MOST_BYTES_OF_AN_OBJECT, "take " + calls + " bytes");
        Checks.that("the answers", sink != 0, "are all 0");
        Checks.finish("RoomTest");
    }

    private static long taken() {
        return THREADS.getThreadAllocatedBytes(Thread.currentThread().getId());
    }

    private static void everyCall(CosineSeries x) {
        sink += x.setCoefficient(0, 3, 1048576) + x.coefficient(0, 3) + x.degree(0) + x.copy(0, 1);
        sink += x.value(0, 1000) + x.add(0, 1, 1, 1, 2) + x.multiply(0, 1, 3) + x.differentiate(0, 4);
        sink += x.antidifferentiate(0, 5) + x.compose(0, 1, 6) + x.divide(0, 5, 7) + x.cut(0, 5) + x.basis(24, 1);
        sink += x.integral(0) + x.inner(0, 1) + x.bound(0) + x.degreeWith(0, 3) + x.byValue(0, 1);
        sink += x.setValue(0, 5) + x.interpolate(4, 2) + x.sample(0, 4) + x.misfit(0, 4) + x.extremePoint(4, 3);
        sink += x.root(0, -1) + x.intervals(1) + x.greatest(0);
    }
}
