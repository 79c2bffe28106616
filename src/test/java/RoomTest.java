import java.lang.management.ManagementFactory;

/** The calls of a run share one room, so that a successful call must make no objects. */
public final class RoomTest {
    // What the measuring itself may make; one small object a call would make more.
    private static final long ALLOWED = 2000;
    private static final int ROUNDS = 300;

    public static void main(String[] args) {
        var threads = (com.sun.management.ThreadMXBean) ManagementFactory.getThreadMXBean();
        Check check = new Check();
        TrailGuide first = prepared();
        use(first);
        threads.getCurrentThreadAllocatedBytes();
        TrailGuide guide = prepared();
        long before = threads.getCurrentThreadAllocatedBytes();
        use(guide);
        long made = threads.getCurrentThreadAllocatedBytes() - before;
        check.due("little is made by the calls (" + made + " bytes)", true, () -> made <= ALLOWED);
        check.finish();
    }

    private static TrailGuide prepared() {
        TrailGuide guide = new TrailGuide();
        for (int i = 0; i < 12; i++) {
            guide.addWaypoint(i * 9, i % 3 * 9, 1);
        }
        for (int i = 0; i < 12; i++) {
            for (int j = 0; j < i; j++) {
                guide.addTrail(i, j, 9 * (i - j));
            }
        }
        return guide;
    }

    private static void use(TrailGuide guide) {
        for (int round = 0; round < ROUNDS; round++) {
            guide.charge(999);
            guide.startTour(0, 11);
            guide.update(round % 100, 0);
            guide.writeRoute();
            guide.writeTrails(5);
            guide.isConsistent();
            guide.components();
            guide.distance(0, 11);
            guide.save();
            guide.undo();
            guide.restore();
            guide.stopTour();
            guide.type('m');
            guide.type('o');
            guide.type('d');
            guide.type('e');
            guide.type(' ');
            guide.type('e');
            guide.run();
        }
    }
}
