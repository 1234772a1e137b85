import java.lang.management.ManagementFactory;

/** Calls make no objects: all runs live in one room, so what is made is made by the constructor. */
final class RoomTest {
    private static final int ROUNDS = 200;

    public static void main(String[] args) {
        NodTax x = new NodTax();
        AnyCall calls = new AnyCall(1);
        long warm = spentBy(x, calls);
        long spent = spentBy(x, calls);
        Check.holds("calls make no objects, but " + spent + " bytes were spent (" + warm + " at first)", spent < 2000);
        Check.end();
    }

    private static long spentBy(NodTax x, AnyCall calls) {
        long before = allocated();
        long answers = 0;
        for (int i = 0; i < ROUNDS; i++) {
            for (int kind = 0; kind < AnyCall.KINDS; kind++) {
                answers += calls.on(x, kind);
            }
        }
        long spent = allocated() - before;
        return answers == Long.MIN_VALUE ? 0 : spent;
    }

    private static long allocated() {
        com.sun.management.ThreadMXBean bean = (com.sun.management.ThreadMXBean) ManagementFactory.getThreadMXBean();
        return bean.getCurrentThreadAllocatedBytes();
    }
}
