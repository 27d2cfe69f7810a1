import java.lang.management.ManagementFactory;

/** What a run of calls makes stays small: the room of a run holds some 7.3 million fields and elements. */
public final class RoomTest {
    private static final Check CHECK = new Check("RoomTest");
    private static final com.sun.management.ThreadMXBean THREADS =
        (com.sun.management.ThreadMXBean) ManagementFactory.getThreadMXBean();
    private static long answers;

    public static void main(String[] args) {
        long[] bytes = new long[4];
        // Twice, so that what the machine makes when a class is first used isn't counted.
        for (int round = 0; round < 2; round++) {
            bytes[0] = THREADS.getCurrentThreadAllocatedBytes();
            manyObjects();
            bytes[1] = THREADS.getCurrentThreadAllocatedBytes();
            ImageFile x = Samples.longest();
            bytes[2] = THREADS.getCurrentThreadAllocatedBytes();
            dearCalls(x);
            bytes[3] = THREADS.getCurrentThreadAllocatedBytes();
        }
        System.out.println("512 objects: " + (bytes[1] - bytes[0]) + " bytes; the longest image: "
            + (bytes[2] - bytes[1]) + "; calls on it: " + (bytes[3] - bytes[2]) + " (" + answers + ")");
        CHECK.yes("512 objects take less than 2,000,000 bytes", bytes[1] - bytes[0] < 2_000_000);
        CHECK.yes("the longest image takes less than 40,000 bytes", bytes[2] - bytes[1] < 40_000);
        CHECK.yes("calls on it take less than 100,000 bytes", bytes[3] - bytes[2] < 100_000);
        CHECK.finish();
    }

    private static void manyObjects() {
        for (int i = 0; i < 512; i++) {
            answers += new ImageFile().read();
        }
    }

    private static void dearCalls(ImageFile x) {
        for (int i = 0; i < 40; i++) {
            answers += x.write() + x.read() + x.told(2) + x.told(4) + x.wordIn(200 + i) + x.markBelow(9000);
            x.keep();
        }
    }
}
