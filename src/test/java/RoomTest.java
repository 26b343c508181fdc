import com.sun.management.ThreadMXBean;
import java.lang.management.ManagementFactory;

/** All calls of one run live in one room: an object brings its rows with it, and its calls make nothing more. */
public final class RoomTest {
    // with the 76 calls that make the full house these are at most 512
    private static final int ROUNDS = 27;
    private static final long BYTES_OF_AN_OBJECT = 64 * 1024;
    private static final long BYTES_OF_ALL_CALLS = 64 * 1024;
    private static final ThreadMXBean THREADS = (ThreadMXBean) ManagementFactory.getThreadMXBean();

    public static void main(String[] args) {
        dearCalls(fullHouse());
        long start = bytes();
        StandIns x = fullHouse();
        long made = bytes();
        dearCalls(x);
        long end = bytes();
        System.out.println("RoomTest: " + (made - start) + " bytes for an object, " + (end - made) + " for its calls");
        if (made - start > BYTES_OF_AN_OBJECT || end - made > BYTES_OF_ALL_CALLS) {
            System.out.println("RoomTest: that is too much");
            System.exit(1);
        }
    }

    private static long bytes() {
        return THREADS.getThreadAllocatedBytes(Thread.currentThread().getId());
    }

    private static StandIns fullHouse() {
        StandIns x = new StandIns();
        for (int r = 0; r < 6; r++) {
            x.addRole(r + 1);
        }
        for (int p = 0; p < 10; p++) {
            x.addPlayer();
            for (int r = 0; r < 6; r++) {
                x.ready(p, r, 1 + (p + r) % 9);
            }
        }
        return x;
    }

    private static void dearCalls(StandIns x) {
        for (int i = 0; i < ROUNDS; i++) {
            x.simulate(i, 40);
            x.coming(30);
            x.degreeFor(i % 10, i % 6);
            x.missed();
            x.without(i % 10);
            x.runScript(3, 400050005000L);
            x.play();
            x.post();
            x.dark(1);
            x.strength();
            x.save(i % 2);
            x.undo();
            x.append('p');
            x.errorPosition();
            x.role(0, 2);
            x.restore(i % 2);
        }
    }
}
