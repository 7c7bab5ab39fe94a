import java.lang.management.ManagementFactory;

/** What a run makes stays small: a new object some kilobytes, and the dearest calls nothing at all. */
public final class RoomTest {
    private static long made() {
        com.sun.management.ThreadMXBean bean = (com.sun.management.ThreadMXBean) ManagementFactory.getThreadMXBean();
        return bean.getThreadAllocatedBytes(Thread.currentThread().getId());
    }
    private static int calls(OpticalHouse x) {
        int sum = x.lens(10);
        for (int s = 0; s < 10; s++) {
            sum += x.set(0, s, 0, s % 2 == 0 ? 1 : -1, 2) + x.set(0, s, 1, 1, 2) + x.behind(0, s, s % 3) + x.set(0, s, 2, 1, 2);
        }
        sum += x.glass(1, 0, 3, 2) + x.glass(2, 0, 8, 5) + x.view(0, 0, 0);
        // "sum 4=1"
        sum += x.feed(0x73756d20, 0x343d3120, 0x20202020, 0x20202020, 0x20202020) + x.merit(0);
        for (int i = 0; i < 6; i++) {
            sum += x.vary(i, i % 2, 1, 4) + x.tolerance(i, i % 2, 1, 4);
        }
        for (int i = 0; i < 40; i++) {
            sum += x.value(0) + x.draws(60, i, 0, 1000, 1) + x.rounds(0, 20) + x.spot(6, 0.01, 0.02) + x.trace(0.1, 0.2, 0.0, 0.0);
            sum += x.ghost(0, 9, 1) + x.term(-1, 4) + x.branch(i) + x.merge(0, 1) + x.undo(0) + x.first(i % 13);
        }
        return sum + x.open() + x.crash(3);
    }
    public static void main(String[] args) {
        int sum = calls(new OpticalHouse());
        long before = made();
        OpticalHouse x = new OpticalHouse();
        long atFirst = made() - before;
        before = made();
        sum += calls(x);
        long later = made() - before;
        System.out.println("a new object makes " + atFirst + " bytes, the calls " + later + " (" + sum + ")");
        System.exit(atFirst < 100000 && later < 20000 ? 0 : 1);
    }
}
