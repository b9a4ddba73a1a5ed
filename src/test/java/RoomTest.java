import com.sun.management.ThreadMXBean;
import java.lang.management.ManagementFactory;

/** Runs of 512 calls that make as much as can be made stay far below the room that a run has. */
public final class RoomTest {
    // 7.3 million fields and elements; what is made for each call is far less.
    private static final long MOST_BYTES = 4_000_000;

    private static final ThreadMXBean THREADS = (ThreadMXBean) ManagementFactory.getThreadMXBean();

    public static void main(String[] args) {
        for (int warm = 0; warm < 20; warm++) {
            trialsAndImages();
            batchesAndImages();
            objectsAlone();
        }
        long before = bytes();
        trialsAndImages();
        long trials = bytes();
        batchesAndImages();
        long batches = bytes();
        objectsAlone();
        long objects = bytes();
        Due.is("a run of TRIALS takes " + (trials - before), trials - before < MOST_BYTES, true);
        Due.is("a run of BATCHES takes " + (batches - trials), batches - trials < MOST_BYTES, true);
        Due.is("512 objects take " + (objects - batches), objects - batches < MOST_BYTES, true);
        Due.end();
    }

    private static long bytes() {
        return THREADS.getThreadAllocatedBytes(Thread.currentThread().getId());
    }

    private static void trialsAndImages() {
        Counted x = new Counted();
        for (int i = 0; i < 100; i++) {
            x.trial(1, 1);
            x.image();
        }
        for (int i = 0; i < 156; i++) {
            x.image();
            x.back();
        }
    }

    private static void batchesAndImages() {
        Counted x = Shop.full();
        for (int i = 0; i < 125; i++) {
            x.batch(Shop.SOAP, 0);
            x.weigh(i, 0, 1f);
            x.image();
            x.back();
        }
    }

    private static void objectsAlone() {
        for (int i = 0; i < 512; i++) {
            new Counted().status();
        }
    }
}
