import com.sun.management.ThreadMXBean;
import java.lang.management.ManagementFactory;

/**
 * All calls of one run live in one room, and nothing in it is given back: what 512 of the dearest calls
 * make must stay far below some 600,000 objects with 7.3 million fields and elements.
 */
public final class RoomTest {
    private static final long MOST_BYTES = 8_000_000L;
    private static final ThreadMXBean BEAN = (ThreadMXBean) ManagementFactory.getThreadMXBean();

    private interface Run {
        void calls(Hall x);
    }

    private RoomTest() {
    }

    private static void check(String name, Run run) {
        run.calls(new Hall());
        long before = BEAN.getThreadAllocatedBytes(Thread.currentThread().getId());
        run.calls(new Hall());
        long bytes = BEAN.getThreadAllocatedBytes(Thread.currentThread().getId()) - before;
        System.out.println(name + " makes " + bytes + " bytes");
        Check.due(name + " makes few bytes", true, bytes < MOST_BYTES);
    }

    /** Four into three do not go: 22 CLAUSES of 12 VARIABLES. */
    private static void pigeons(Hall x) {
        x.wide(12);
        for (int hole = 0; hole < 3; hole++) {
            x.atMost(0b001001001001 << hole, 1);
        }
        for (int pigeon = 0; pigeon < 4; pigeon++) {
            x.tell(pigeon * 3 + 1, pigeon * 3 + 2, pigeon * 3 + 3, 0, 9);
        }
        for (int n = 0; n < 8; n++) {
            x.tell(12, 11, 10, -9 + n, 9);
        }
    }

    private static void digests(Hall x) {
        pigeons(x);
        while (x.calls() < Hall.MOST_CALLS - 2) {
            x.run(x.calls() < 60 ? 10 : 1);
            x.digest();
            x.isSound();
        }
    }

    private static void searches(Hall x) {
        pigeons(x);
        while (x.calls() < Hall.MOST_CALLS - 1) {
            x.anew();
            x.run(60);
        }
    }

    private static void learnings(Hall x) {
        pigeons(x);
        while (x.calls() < Hall.MOST_CALLS - 4) {
            x.run(60);
            x.run(60);
            x.anew();
            x.forget(0);
        }
    }

    private static void sentences(Hall x) {
        x.type("a*b*c*d");
        while (x.calls() < Hall.MOST_CALLS - 2) {
            x.sentence();
            x.sentence();
            x.clear();
        }
    }

    private static void bounds(Hall x) {
        while (x.calls() < Hall.MOST_CALLS - 1) {
            x.atMost(63, 2);
            x.clear();
        }
    }

    private static void texts(Hall x) {
        x.wide(12);
        while (x.calls() < Hall.MOST_CALLS) {
            x.model(x.calls());
        }
    }

    private static void signs(Hall x) {
        while (x.calls() < Hall.MOST_CALLS - 2) {
            x.say(20, 0, 0, 0, 0, 0);
            x.typed();
            x.fault();
        }
    }

    private static void cores(Hall x) {
        pigeons(x);
        while (x.calls() < Hall.MOST_CALLS - 3) {
            x.core();
            x.leastCore();
            x.failing(0b1111, 0b11110000);
            x.best(true);
        }
    }

    public static void main(String[] args) {
        check("digests", RoomTest::digests);
        check("searches", RoomTest::searches);
        check("learnings", RoomTest::learnings);
        check("signs", RoomTest::signs);
        check("sentences", RoomTest::sentences);
        check("bounds", RoomTest::bounds);
        check("texts", RoomTest::texts);
        check("cores", RoomTest::cores);
        Check.end();
    }
}
