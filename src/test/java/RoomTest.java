import com.sun.management.ThreadMXBean;
import java.lang.management.ManagementFactory;

/** What a run makes is counted and never given back: a whole run must stay far inside the room. */
public final class RoomTest {
    private static final long MOST_BYTES_A_RUN = 200_000;
    private static final ThreadMXBean THREADS = (ThreadMXBean) ManagementFactory.getThreadMXBean();

    private static int steps = 0;

    private RoomTest() {
    }

    public static void main(String[] args) {
        // The first run also loads classes, which is not the run's own.
        dearRun();
        long before = THREADS.getCurrentThreadAllocatedBytes();
        int calls = dearRun();
        long made = THREADS.getCurrentThreadAllocatedBytes() - before;
        Check.due("calls", 512, () -> calls);
        Check.due("steps of its expressions", 73, () -> steps);
        Check.due("a run of 512 calls made " + made + " bytes; too many", false, made > MOST_BYTES_A_RUN);
        Check.end();
    }

    /** As many edges, groups, copies and questions as the document lets one object have. */
    private static int dearRun() {
        PathDesk desk = new PathDesk();
        int calls = 0;
        for (int i = 0; i < 300; i++) {
            desk.edge(i % 32, i / 32 % 8, (i * 7 + i / 32) % 32);
            calls++;
        }
        for (int slot = 0; slot < 4; slot++) {
            // a*|(a*|( .. a+{8,9} .. )){4}, with ten groups in one another and 73 steps
            for (int i = 0; i < 10; i++) {
                desk.feed(0x612A7C28L, 4);
                calls++;
            }
            desk.feed(0x612B7B382C397DL, 7);
            desk.feed(0x2929292929L, 5);
            desk.feed(0x29292929297B347DL, 8);
            desk.load(slot);
            calls += 4;
            steps = desk.count(2 + slot);
            calls++;
        }
        while (calls < 512) {
            desk.tag(calls % 32, calls % 4, true);
            desk.pairs(calls % 4, calls / 4 % 4, 4);
            calls += 2;
        }
        return calls;
    }
}
