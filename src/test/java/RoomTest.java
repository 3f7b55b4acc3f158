import com.sun.management.ThreadMXBean;
import java.lang.management.ManagementFactory;

/** All calls of a run share one room: a call may make no objects, and an object must be small itself. */
final class RoomTest {
    private static final Checks checks = new Checks();
    private static final ThreadMXBean memory = (ThreadMXBean) ManagementFactory.getThreadMXBean();

    public static void main(String[] args) {
        PolicyWorks x = full();
        // The first turns may load classes; the least of some turns tells what the calls themselves make.
        long least = Long.MAX_VALUE;
        for (int turn = 0; turn < 5; turn++) {
            long before = memory.getThreadAllocatedBytes(Thread.currentThread().getId());
            dearest(x);
            least = Math.min(least, memory.getThreadAllocatedBytes(Thread.currentThread().getId()) - before);
        }
        checks.due("calls make next to nothing (" + least + " bytes)", least < 2000, true);

        long before = memory.getThreadAllocatedBytes(Thread.currentThread().getId());
        PolicyWorks other = new PolicyWorks();
        long made = memory.getThreadAllocatedBytes(Thread.currentThread().getId()) - before;
        checks.due("an object is small (" + made + " bytes)", made < 100_000, true);
        checks.due("and new", other.count(0), 0);
        checks.end();
    }

    private static PolicyWorks full() {
        PolicyWorks x = new PolicyWorks();
        for (int s = 0; s < 6; s++) {
            x.state();
        }
        for (int s = 0; s < 6; s++) {
            for (int a = 0; a < 4; a++) {
                x.action(s);
                x.reward(s, a, 997 - 31 * s - 17 * a, 20 - s - a);
                for (int t = 0; t < 6; t++) {
                    x.move(s, a, t, 1 + (7 * s + 5 * a + 3 * t) % 20);
                }
            }
        }
        return x;
    }

    private static void dearest(PolicyWorks x) {
        for (int i = 0; i < 50; i++) {
            x.discount(10 + i % 10, 20);
            x.solve();
            x.best();
            x.value(5, 0);
            x.gain(5, 3, 1);
            x.worth(3, 5, 0);
            x.steps(8, 5, 1);
            x.plan(8, 5);
            x.bound(8, 0);
            x.count(3);
        }
    }
}
