import java.lang.management.ManagementFactory;

/** The room of a run: what an object and 512 of its dearest calls make stays far below what there is. */
public final class RoomTest {
    private static final Check CHECK = new Check("RoomTest");
    /** A hundredth of 7.3 million elements, at eight bytes each. */
    private static final long MOST_BYTES = 73_000 * 8L;

    public static void main(String[] args) {
        com.sun.management.ThreadMXBean bean = (com.sun.management.ThreadMXBean) ManagementFactory.getThreadMXBean();
        long thread = Thread.currentThread().getId();
        dearRun();
        long before = bean.getThreadAllocatedBytes(thread);
        dearRun();
        long bytes = bean.getThreadAllocatedBytes(thread) - before;
        CHECK.yes("a run made " + bytes + " bytes", bytes < MOST_BYTES);
        CHECK.end();
    }

    private static void dearRun() {
        DocumentSpanner x = Spanner.with("aaaaaaaa");
        Spanner.extract(x, ".*X{.*}.*", 0);
        int calls = 20;
        for (; calls < 200; calls += 45) {
            Spanner.formula(x, "X{.*}Y{.*}Z{.*}.*|X{.*}(Y{.*}|).*aa");
            x.extract(1);
        }
        Spanner.formula(x, "(X{.*}|Y{.*}|Z{.*}|.)*");
        for (; calls < 512; calls += 8) {
            x.save();
            x.splitCorrect(0);
            x.join(1, 1, 2);
            x.antijoin(1, 2, 3);
            x.best(1, 199);
            x.parse();
            x.extract(4);
            x.restore();
        }
    }
}
