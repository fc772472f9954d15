import java.lang.management.ManagementFactory;

/** That all memory is made once, with the object, and that an object is small. */
public final class RoomTest {
    private static final com.sun.management.ThreadMXBean MEMORY =
            (com.sun.management.ThreadMXBean) ManagementFactory.getThreadMXBean();

    public static void main(String[] args) {
        useAll(new FactorDesk());
        long before = made();
        FactorDesk desk = new FactorDesk();
        long object = made() - before;
        Check.due("bytes of an object (" + object + ") below 32000", object < 32000, true);
        before = made();
        for (int i = 0; i < 10; i++) {
            useAll(desk);
        }
        long calls = made() - before;
        Check.due("bytes that calls make (" + calls + ") below 1000", calls < 1000, true);
        Check.finish("RoomTest");
    }

    private static long made() {
        return MEMORY.getThreadAllocatedBytes(Thread.currentThread().getId());
    }

    private static void useAll(FactorDesk desk) {
        for (int k = 0; k <= 12; k++) {
            desk.put(k == 0 ? 1 : k == 12 ? -1 : 0);
        }
        desk.take();
        desk.put(-3);
        desk.times();
        desk.factors();
        desk.factor(0, 1);
        desk.part(0, 1);
        desk.isIrreducible();
        desk.ofDegree(2);
        desk.put(1);
        desk.put(1);
        desk.common();
        desk.divisor(1);
        desk.put(1);
        desk.put(1);
        desk.divides();
        desk.value(5, 7);
        desk.content();
        desk.at(3);
        desk.clear();
    }
}
