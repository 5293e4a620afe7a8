import com.sun.management.ThreadMXBean;
import java.lang.management.ManagementFactory;

/** All calls of a run share one small room, and no call throws by itself, however many there are. */
public final class RoomTest {
    private static final int CALLS = 512;
    private static final long BYTES_OF_AN_OBJECT = 64_000;
    private static final long BYTES_OF_A_CALL = 32;

    private static int wrong = 0;

    public static void main(String[] args) {
        long object = bytesOfAnObject();
        long calls = bytesOfCalls();
        // The first measure counts what the machine itself makes on a first use.
        object = bytesOfAnObject();
        calls = bytesOfCalls();
        atMost("bytes of a new object", object, BYTES_OF_AN_OBJECT);
        atMost("bytes of 512 calls", calls, CALLS * BYTES_OF_A_CALL);
        callOnAndOn();
        System.out.println(wrong == 0 ? "the room is large enough" : wrong + " faults");
        if (wrong != 0) {
            System.exit(1);
        }
    }

    private static void atMost(String what, long got, long most) {
        if (got > most) {
            wrong++;
            System.out.println(what + ": " + got + ", at most " + most + " are due");
        }
    }

    private static long allocated() {
        ThreadMXBean bean = (ThreadMXBean) ManagementFactory.getThreadMXBean();
        return bean.getThreadAllocatedBytes(Thread.currentThread().getId());
    }

    private static long bytesOfAnObject() {
        long before = allocated();
        TwinLedgers x = new TwinLedgers(16);
        long after = allocated();
        return after - before + x.height(0);
    }

    private static long bytesOfCalls() {
        TwinLedgers x = new TwinLedgers(16);
        long before = allocated();
        openChannel(x, 0);
        openChannel(x, 1);
        for (int i = 0; i < (CALLS - 14) / 6; i++) {
            x.send(0, i % 2, i % 16, 0, 1);
            x.send(1, i % 2, i % 16, 1, 1);
            x.receive(1, i % 2, 1, x.height(0), true);
            x.root(0, x.height(0));
            x.round();
            x.tick(1);
        }
        return allocated() - before;
    }

    private static void openChannel(TwinLedgers x, int c) {
        x.init(0, c, c == 1);
        x.round();
        x.attempt(1, c, c == 1, x.height(0));
        x.round();
        x.open(0, c, 0, x.height(1));
        x.round();
        x.open(1, c, 1, x.height(0));
    }

    private static void callOnAndOn() {
        TwinLedgers x = new TwinLedgers(16);
        for (int i = 0; i < 3 * CALLS; i++) {
            int h = x.tick(i % 2);
            x.update(0, h, 15, false);
            x.update(1, h, 15, false);
            x.round();
            x.knows(0, h);
            x.root(1, h);
            if (i == 2 * CALLS) {
                openChannel(x, 0);
            }
            x.send(0, 0, 1, 0, 1);
            x.receive(1, 0, 1, h, false);
            x.acknowledge(0, 0, 1, h);
            x.timeout(0, 0, 1, h, true);
        }
    }
}
