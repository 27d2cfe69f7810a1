/** Promises 10 to 14: size, byteAt, feed, cut, spoil. */
public final class FileTest {
    private static final Check CHECK = new Check("FileTest");
    private static final int NONE = -1;
    private static final long EIGHT = 0x80ff017f00fe1234L;
    private static final int[] BYTES = {0x80, 0xff, 0x01, 0x7f, 0x00, 0xfe, 0x12, 0x34};

    public static void main(String[] args) {
        size();
        byteAt();
        feed();
        cut();
        spoil();
        CHECK.finish();
    }

    private static Hand fresh() {
        return new Hand(CHECK);
    }

    private static RawFile raw(int... bytes) {
        return RawFile.ofSize(bytes.length).bytes(0, bytes);
    }

    /** A FILE of n bytes below 16,384, all but the last ones by writing. */
    private static Hand nearlyFull(int n) {
        return Samples.fullFile(CHECK).cut(n);
    }

    // Promise 10

    private static void size() {
        CHECK.sentence("Promise 10", "How many bytes the FILE has.", () -> {
            fresh().size(0).feed(1, 0, true).size(1).feed(8, 0, true).size(9).cut(4).size(4).cut(0).size(0);
            Samples.textAt(CHECK, 64).size(0).write(156).size(156).feed(3, 0, true).size(159).write(156).size(156);
            Samples.fullFile(CHECK).size(16384).cut(16383).size(16383).read(12, 148 + 4).size(16383).keep().size(16383);
        });
        CHECK.sentence("Terms", "(none at first)", () -> fresh().size(0).write(-1).size(0).read(1, 0).size(0));
    }

    // Promise 11

    private static void byteAt() {
        CHECK.sentence("Promise 11", "Byte k of the FILE, 0 .. 255", () -> {
            for (int first = 0; first < 256; first += 8) {
                Hand hand = fresh();
                for (int b = first; b < first + 8; b++) {
                    hand.feed(1, Samples.highest(b), true).byteAt(b - first, b);
                }
            }
            Samples.allThree(CHECK).write(Samples.SIZE).fileIs(Samples.fileOfAllThree());
        });
        CHECK.sentence("Promise 11", "NONE when there is none", () -> {
            Hand hand = fresh().byteAt(0, NONE).byteAt(-1, NONE).byteAt(1, NONE);
            hand.feed(2, Samples.highest(255, 128), true).byteAt(0, 255).byteAt(1, 128).byteAt(-1, NONE).byteAt(2, NONE);
            for (int far : Samples.FAR) {
                hand.byteAt(far, NONE);
            }
            hand.byteAt(16383, NONE).byteAt(16384, NONE).size(2);
            // What was cut off, or of a longer FILE ahead, is not there.
            hand.cut(1).byteAt(0, 255).byteAt(1, NONE).cut(0).byteAt(0, NONE);
            Samples.textAt(CHECK, 0).feed(RawFile.ofSize(200)).write(156).byteAt(155, 0).byteAt(156, NONE);
            Samples.fullFile(CHECK).byteAt(0, 127).byteAt(16383, 255).byteAt(16384, NONE).byteAt(-1, NONE);
        });
    }

    // Promise 12

    private static void feed() {
        CHECK.sentence("Promise 12", "The n highest bytes of eight (the highest first) come behind the FILE.", () -> {
            Hand hand = fresh();
            int size = 0;
            for (int n = 1; n <= 8; n++) {
                hand.feed(n, EIGHT, true).size(size + n);
                for (int i = 0; i < n; i++) {
                    hand.byteAt(size + i, BYTES[i]);
                }
                size += n;
                hand.byteAt(size, NONE);
            }
            Samples.textAt(CHECK, 64).write(156).feed(2, EIGHT, true).size(158).byteAt(155, 0).byteAt(156, 0x80)
                .byteAt(157, 0xff).byteAt(158, NONE).read();
        });
        CHECK.sentence("Promise 12", "come behind the FILE", () ->
            // What a longer FILE had there doesn't shine through.
            fresh().feed(8, -1, true).cut(3).feed(2, 0, true).fileIs(raw(255, 255, 255, 0, 0)).cut(0).feed(1, EIGHT, true)
                .fileIs(raw(0x80)));
        CHECK.sentence("Promise 12", "when n isn't 1 .. 8", () -> {
            Hand none = fresh().feed(0, -1, false).feed(9, -1, false).size(0).byteAt(0, NONE);
            none.feed(1, EIGHT, true).feed(0, -1, false).feed(-1, -1, false).feed(9, -1, false).fileIs(raw(0x80));
            none.feed(8, EIGHT, true).feed(9, -1, false).feed(16, -1, false).feed(-8, -1, false);
            for (int wrong : Samples.FAR) {
                none.feed(wrong, -1, false);
            }
            none.fileIs(raw(0x80, 0x80, 0xff, 0x01, 0x7f, 0x00, 0xfe, 0x12, 0x34));
        });
        CHECK.sentence("Promise 12", "or it would have more than 16,384", FileTest::feedUpToLimit);
    }

    private static void feedUpToLimit() {
        for (int n = 1; n <= 8; n++) {
            Hand hand = nearlyFull(16384 - n);
            for (int more = n + 1; more <= 8; more++) {
                hand.feed(more, EIGHT, false);
            }
            hand.size(16384 - n).byteAt(16384 - n, NONE).byteAt(16383 - n, 255).feed(n, EIGHT, true).size(16384);
            for (int i = 0; i < n; i++) {
                hand.byteAt(16384 - n + i, BYTES[i]);
            }
            for (int more = 1; more <= 8; more++) {
                hand.feed(more, 0, false);
            }
            hand.size(16384).byteAt(16383, BYTES[n - 1]).byteAt(16384, NONE).byteAt(0, 127);
        }
    }

    // Promise 13

    private static void cut() {
        CHECK.sentence("Promise 13", "The FILE has its first n bytes alone.", () -> {
            for (int n = 0; n <= 8; n++) {
                Hand hand = fresh().feed(8, EIGHT, true).cut(n, true).size(n);
                for (int k = 0; k < 8; k++) {
                    hand.byteAt(k, k < n ? BYTES[k] : NONE);
                }
                hand.spoil(n, 1, NONE).size(n);
            }
        });
        CHECK.sentence("Promise 13", "when n isn't 0 .. how many there are", () -> {
            fresh().cut(0, true).cut(1, false).cut(-1, false).size(0);
            Hand hand = fresh().feed(8, EIGHT, true).cut(8, true).cut(9, false).cut(-1, false);
            for (int wrong : Samples.FAR) {
                hand.cut(wrong, false);
            }
            hand.fileIs(raw(BYTES)).cut(7, true).cut(8, false).fileIs(raw(0x80, 0xff, 1, 0x7f, 0, 0xfe, 0x12));
            hand.cut(0, true).cut(1, false).cut(0, true).size(0);
            Samples.fullFile(CHECK).cut(16385, false).cut(16384, true).size(16384).cut(16383, true).cut(16384, false)
                .size(16383).byteAt(16382, 255).cut(0, true).size(0).cut(1, false);
        });
    }

    // Promise 14

    private static void spoil() {
        CHECK.sentence("Promise 14", "Byte k of the FILE becomes the lowest eight bits of b: what it was.", () -> {
            Hand hand = fresh().feed(3, Samples.highest(255, 0, 128), true);
            int[] values = {0, 255, 256, -1, -256, 511, 0x12345680, 127, Integer.MIN_VALUE, Integer.MAX_VALUE, 128};
            int was = 0;
            for (int b : values) {
                hand.spoil(1, b, was).byteAt(1, b & 255);
                was = b & 255;
            }
            hand.spoil(1, 128, 128).fileIs(raw(255, 128, 128)).spoil(0, 1, 255).spoil(2, 2, 128).fileIs(raw(1, 128, 2));
        });
        CHECK.sentence("Promise 14", "NONE, refused, when there is none.", () -> {
            fresh().spoil(0, 5, NONE).spoil(-1, 5, NONE).size(0).byteAt(0, NONE);
            Hand hand = fresh().feed(4, EIGHT, true).spoil(-1, 5, NONE).spoil(4, 5, NONE);
            for (int wrong : Samples.FAR) {
                hand.spoil(wrong, 5, NONE);
            }
            hand.fileIs(raw(0x80, 0xff, 1, 0x7f)).spoil(0, 9, 0x80).spoil(3, 8, 0x7f).fileIs(raw(9, 0xff, 1, 8));
            hand.cut(3).spoil(3, 5, NONE).feed(1, 0, true).fileIs(raw(9, 0xff, 1, 0));
            Samples.fullFile(CHECK).spoil(16384, 1, NONE).size(16384).spoil(16383, 1, 255).byteAt(16383, 1)
                .spoil(0, 1, 127).byteAt(0, 1).read(2, 0);
        });
    }
}
