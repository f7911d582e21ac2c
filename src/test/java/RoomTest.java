import com.sun.management.ThreadMXBean;
import java.lang.management.ManagementFactory;

/** All calls of one run live in one room: the calls make nothing that would fill it. */
public final class RoomTest {
    private static final long DUE_AT_MOST = 200_000;

    private RoomTest() {
    }

    public static void main(String[] arguments) {
        Checks checks = new Checks("RoomTest");
        ThreadMXBean threads = (ThreadMXBean) ManagementFactory.getThreadMXBean();
        PeirceDesk first = new PeirceDesk();
        use(first);
        long before = threads.getCurrentThreadAllocatedBytes();
        PeirceDesk desk = new PeirceDesk();
        long made = threads.getCurrentThreadAllocatedBytes() - before;
        use(desk);
        long used = threads.getCurrentThreadAllocatedBytes() - before - made;
        checks.due("an object takes " + made + " bytes, at most " + DUE_AT_MOST, Math.max(made, DUE_AT_MOST), DUE_AT_MOST);
        checks.due("512 calls take " + used + " bytes, at most " + DUE_AT_MOST, Math.max(used, DUE_AT_MOST), DUE_AT_MOST);
        checks.finish();
    }

    /** 512 calls, each method among them. */
    private static void use(PeirceDesk desk) {
        long text = 0x413a762841292b69L; // A:v(A)+i
        for (int round = 0; round < 16; round++) {
            desk.begin(2 + round % 2, 11);
            desk.set(0, 0, 0, 2);
            desk.set(0, 1, 1, 6);
            desk.set(0, 0, 1, 3);
            desk.set(0, 1 + round % 2, 1 + round % 2, 7);
            desk.base(0);
            desk.split(1, 0, 5);
            desk.put(text);
            desk.fault();
            desk.stops();
            desk.holds();
            desk.run();
            desk.wipe();
            desk.entry(0, 0, 0);
            for (int what = 2; what < 8; what++) {
                desk.of(0, what);
            }
            desk.count(3);
            desk.areSame(0, 1);
            desk.power(0, 2000, 0, 0);
            desk.rule(0, 5, 6, 1);
            desk.partSize(1, 0);
            desk.howMany(0);
            desk.howMany(1);
            desk.save(round % 2);
            desk.undo();
            desk.restore(0);
            desk.base(PeirceDesk.NONE);
            desk.of(0, 5);
        }
    }
}
