import com.sun.management.ThreadMXBean;
import java.lang.management.ManagementFactory;

/** What calls make: a run has one room for all of its objects (LANGUAGE.md, rule 12), so most calls make none. */
public final class RoomTest {
    private static final ThreadMXBean THREADS = (ThreadMXBean) ManagementFactory.getThreadMXBean();
    private static final int ROWS = 60;
    private static final int CALLS = 512;
    // None were seen; this leaves some to the machine, and an object at each call of one kind would be above it.
    private static final long SLACK = 150;
    // 60 pictures of 1600 numbers and as much for what comes out, some 100,000 elements of four bytes: the room has
    // 7.3 million elements.
    private static final long DEAREST_RUN = 600_000;
    private static final Checks checks = new Checks();

    public static void main(String[] args) {
        if (!THREADS.isThreadAllocatedMemorySupported() || !THREADS.isThreadAllocatedMemoryEnabled()) {
            System.out.println("this machine does not tell what is made: nothing is compared");
            return;
        }
        // Twice, since the first run also makes what the machine needs to run it.
        dearestRun();
        manyCalls();
        checks.holds("the dearest run is within " + DEAREST_RUN + " bytes", dearestRun() <= DEAREST_RUN);
        checks.holds("calls on rows that stand make nothing", manyCalls() <= SLACK);
        checks.holds("refused rows make nothing", refusedRows() <= SLACK);
        checks.end();
    }

    private static long made() {
        return THREADS.getThreadAllocatedBytes(Thread.currentThread().getId());
    }

    private static BatchOrder fullOfPictures() {
        BatchOrder x = new BatchOrder();
        for (int r = 0; r < ROWS; r++) {
            x.picture(40, 40, r % 8, r);
        }
        return x;
    }

    private static long dearestRun() {
        long before = made();
        BatchOrder x = fullOfPictures();
        for (int call = ROWS; call < CALLS; call++) {
            x.act(call % 3, call % ROWS, call, 40);
        }
        return made() - before;
    }

    private static long manyCalls() {
        BatchOrder x = new BatchOrder();
        for (int r = 0; r < ROWS; r++) {
            if (r % 2 == 0) {
                x.picture(40, 40, r % 8, r);
            } else {
                x.row(0, r % 8, r);
                x.word(r, r);
                x.word(r, -r);
            }
        }
        long before = made();
        for (int step = 0; step < 12; step++) {
            callEach(x, step);
        }
        return made() - before;
    }

    private static void callEach(BatchOrder x, int step) {
        x.word(1, step);
        x.paint(0, step, step);
        x.mark(2, step % 8, step);
        x.of(3, step % 6);
        x.seed(step);
        x.set(1, step + 1);
        x.count();
        for (int way = 0; way < 5; way++) {
            x.batch(way, step, 1, 1);
            x.share(way, step, 1, 2, 1, 0);
            x.once(way, step);
        }
        x.resume(step % 5, step, step);
        x.next();
        x.at(2);
        x.act(step % 3, 4, step, 20);
        x.act(3 + step % 2, 5, step, 20);
        x.out(-1);
        x.like(4);
    }

    private static long refusedRows() {
        BatchOrder x = fullOfPictures();
        long before = made();
        for (int call = ROWS; call < CALLS; call += 4) {
            x.picture(40, 40, 0, 0);
            x.row(0, 0, 0);
            x.picture(41, 40, 0, 0);
            x.row(1, 0, 0);
        }
        return made() - before;
    }
}
