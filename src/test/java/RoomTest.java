import com.sun.management.ThreadMXBean;
import java.lang.management.ManagementFactory;

/**
 * All calls of one run live in one room, and nothing in it is given back: what 512 of the dearest calls
 * make must stay far below some 600,000 objects with 7.3 million fields and elements.
 */
public final class RoomTest {
    private static final long MOST_BYTES = 4_000_000L;
    private static final ThreadMXBean BEAN = (ThreadMXBean) ManagementFactory.getThreadMXBean();

    private interface Run {
        void calls(Clausehall x);
    }

    private RoomTest() {
    }

    private static void check(String name, Run run) {
        run.calls(new Clausehall());
        long before = BEAN.getThreadAllocatedBytes(Thread.currentThread().getId());
        run.calls(new Clausehall());
        long bytes = BEAN.getThreadAllocatedBytes(Thread.currentThread().getId()) - before;
        System.out.println(name + " makes " + bytes + " bytes");
        Check.due(name + " makes few bytes", true, bytes < MOST_BYTES);
    }

    /** Four into three do not go: 22 CLAUSES of 12 VARIABLES. */
    private static void pigeons(Clausehall x) {
        x.wide(12);
        for (int hole = 0; hole < 3; hole++) {
            x.atMost(0b001001001001 << hole, 1);
        }
        for (int pigeon = 0; pigeon < 4; pigeon++) {
            x.tell(pigeon * 3 + 1, pigeon * 3 + 2, pigeon * 3 + 3, 0, 9);
        }
        for (int n = 0; n < 8; n++) {
            x.tell(12, 11, 10, -9 + n, 9);
        }
    }

    private static void digests(Clausehall x) {
        pigeons(x);
        for (int n = 0; n < 490; n++) {
            x.run(n < 10 ? 10 : 1);
            x.digest();
            x.isSound();
        }
    }

    private static void searches(Clausehall x) {
        pigeons(x);
        for (int n = 0; n < 245; n++) {
            x.anew();
            x.run(60);
        }
    }

    private static void sentences(Clausehall x) {
        x.say(0, 13, 1, 13, 2, 13);
        x.say(3, -1, -1, -1, -1, -1);
        for (int n = 0; n < 170; n++) {
            x.sentence();
            x.sentence();
            x.clear();
        }
    }

    private static void bounds(Clausehall x) {
        for (int n = 0; n < 250; n++) {
            x.atMost(63, 2);
            x.clear();
        }
    }

    private static void texts(Clausehall x) {
        x.wide(12);
        for (int n = 0; n < 510; n++) {
            x.model(n);
        }
    }

    private static void cores(Clausehall x) {
        pigeons(x);
        for (int n = 0; n < 120; n++) {
            x.core();
            x.leastCore();
            x.failing(0b1111, 0b11110000);
            x.best(true);
        }
    }

    public static void main(String[] args) {
        check("digests", RoomTest::digests);
        check("searches", RoomTest::searches);
        check("sentences", RoomTest::sentences);
        check("bounds", RoomTest::bounds);
        check("texts", RoomTest::texts);
        check("cores", RoomTest::cores);
        Check.end();
    }
}
