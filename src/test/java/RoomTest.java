import com.sun.management.ThreadMXBean;
import java.lang.management.ManagementFactory;

/** All calls of a run live in one room, so the calls may make no objects; the constructor few. */
public final class RoomTest {
    private static final int TIMES = 100;
    /** What the machine itself may need once; one object in each call would be more. */
    private static final long SLACK = 1000;

    private static final ThreadMXBean THREADS =
        (ThreadMXBean) ManagementFactory.getThreadMXBean();

    private RoomTest() {
    }

    public static void main(String[] args) {
        for (int kind = 0; kind < 10; kind++) {
            made(kind);
            Check.holds("the calls of the kind " + kind + " make " + made(kind) + " bytes",
                made(kind) < SLACK);
        }
        long before = bytes();
        DeadTimeLoop x = new DeadTimeLoop();
        long object = bytes() - before;
        Check.holds("a new object has " + object + " bytes", object < 30000);
        Check.due("a call of it", x.time(), 0);
        Check.end();
    }

    private static long bytes() {
        return THREADS.getThreadAllocatedBytes(Thread.currentThread().getId());
    }

    private static long made(int kind) {
        DeadTimeLoop x = new DeadTimeLoop();
        x.setSetpoint(1000);
        x.watch(1);
        for (int c : new int[] {'k', 'p', '=', '5', ';', 'k', 'i', '=', '6', ';'}) {
            x.type(c);
        }
        x.run(40);
        long before = bytes();
        for (int n = 0; n < TIMES; n++) {
            call(x, kind);
        }
        return bytes() - before;
    }

    private static void call(DeadTimeLoop x, int kind) {
        switch (kind) {
            case 0:
                x.run(100);
                break;
            case 1:
                x.ahead(100, 1);
                break;
            case 2:
                x.bestGain(10);
                break;
            case 3:
                x.idealDifference(50);
                break;
            case 4:
                x.store();
                x.recall();
                break;
            case 5:
                x.apply();
                x.undo();
                break;
            case 6:
                x.fault();
                x.assigned();
                x.assignedAt(1);
                break;
            case 7:
                x.estimatedLag();
                x.tuneDelay();
                break;
            case 8:
                x.restart();
                x.setParameter(0, 1);
                x.nameAt(3, 2);
                break;
            default:
                x.watch(2);
                x.unwatch(2);
                x.settledTicks(64);
                x.measure(0);
                x.extreme(1, 0);
                break;
        }
    }
}
