import java.lang.management.ManagementFactory;

/** All calls of a run share one room: once an object stands, no call may make another object. */
public final class RoomTest {
    private static final int CALLS = 512;

    public static void main(String[] args) {
        com.sun.management.ThreadMXBean bean =
                (com.sun.management.ThreadMXBean) ManagementFactory.getThreadMXBean();
        Dues dues = new Dues();
        dues.begin("room");
        for (int way = 0; way <= 3; way++) {
            long most = Long.MAX_VALUE;
            // The first time the machine itself may make what it loads; the least of some is ours.
            for (int turn = 0; turn < 3; turn++) {
                HardEnvoys x = crowded(way);
                long before = bean.getCurrentThreadAllocatedBytes();
                useAll(x);
                most = Math.min(most, bean.getCurrentThreadAllocatedBytes() - before);
            }
            dues.due("bytes made by " + CALLS + " calls, way " + way + ", are few", most < 1000 ? 0 : most, 0);
        }
        dues.end();
    }

    private static HardEnvoys crowded(int way) {
        HardEnvoys x = new HardEnvoys();
        x.steps(24);
        x.set(0, way);
        x.set(1, 9);
        for (int number = 1; number < 5; number++) {
            x.envoy(0);
            x.envoy(1);
            x.put(0, number, 5, number);
            x.put(1, number, 4, 10 * number);
        }
        return x;
    }

    private static void useAll(HardEnvoys x) {
        for (int call = 0; call < CALLS; call += 16) {
            x.edge(0);
            x.edge(1);
            x.paid(0, 1, 2);
            x.hard(1, 2, 3);
            x.rest(-1);
            x.lose(0);
            x.thought(1);
            x.has(0, 1, 1);
            x.best(1, 4);
            x.committee(31, 3, 2);
            x.middle(1, 1, -1);
            x.recall(0, 2, 2);
            x.write("(l+u)/2*3|".charAt(call / 16 % 10));
            x.fault();
            x.settle(4, 4);
            x.digest();
        }
    }
}
