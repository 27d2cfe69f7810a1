import java.lang.management.ManagementFactory;

/** What a run of calls makes stays small: the room of a run holds some 7.3 million fields and elements. */
public final class RoomTest {
    private static final Check CHECK = new Check("RoomTest");
    private static final com.sun.management.ThreadMXBean THREADS =
        (com.sun.management.ThreadMXBean) ManagementFactory.getThreadMXBean();
    private static long answers;

    public static void main(String[] args) {
        // Twice, so that what the machine makes when a class is first used isn't counted.
        for (int round = 0; round < 2; round++) {
            small("512 objects", 2_000_000, RoomTest::manyObjects, round);
            small("an object with dear calls", 100_000, RoomTest::dearCalls, round);
            small("an object that is filled", 100_000, RoomTest::filled, round);
        }
        System.out.println("(" + answers + ")");
        CHECK.finish();
    }

    private static void small(String what, long limit, Runnable calls, int round) {
        long before = THREADS.getCurrentThreadAllocatedBytes();
        calls.run();
        long bytes = THREADS.getCurrentThreadAllocatedBytes() - before;
        if (round > 0) {
            System.out.println(what + ": " + bytes + " bytes");
            CHECK.yes(what + " takes less than " + limit + " bytes", bytes < limit);
        }
    }

    private static void manyObjects() {
        for (int i = 0; i < 512; i++) {
            answers += new ImageFile().read();
        }
    }

    /** A FILE of 12,500 bytes by pages, written, read and kept up to the 512th call. */
    private static void dearCalls() {
        ImageFile x = new ImageFile();
        x.page(12);
        x.segment(0, 179, 0);
        x.put(0, 2, 0);
        x.segment(1, 8372, 0);
        x.segment(2, 16563, 0);
        x.mark(0, true);
        x.entry(179);
        for (int i = 0; i < 72; i++) {
            answers += x.write() + x.read() + x.told(2) + x.told(4) + x.wordIn(i) + x.markBelow(9000);
            x.keep();
        }
    }

    private static void filled() {
        ImageFile x = new ImageFile();
        x.segment(1, 0, 0);
        for (int i = 0; i < 255; i++) {
            answers += x.put(1, 8, i) && x.feed(8, i) ? 1 : 0;
        }
    }
}
