import java.util.Arrays;

/** Images and files that several tests begin from. */
final class Samples {
    private Samples() {
    }

    /** Arguments far outside: a test of a bound tries its two neighbours and these. */
    static final int[] FAR = {Integer.MIN_VALUE, Integer.MIN_VALUE + 1, -65536, 1 << 20, Integer.MAX_VALUE};

    /** The numbers 0 .. 255 as the highest bytes of a long, the first one highest. */
    static long highest(int... bytes) {
        long eight = 0;
        for (int i = 0; i < 8; i++) {
            eight = eight << 8 | (i < bytes.length ? bytes[i] & 255 : 0);
        }
        return eight;
    }

    static final int[] SIX = {0x13, 1, 2, 3, 0x41, 4};
    static final int SIX_SIZE = 156;

    /** TEXT alone, at an address: an instruction of four bytes, then one of two; both marked, the first is the entry. */
    static Hand textAt(Check check, int address) {
        return new Hand(check).segment(0, address, 0).bytes(0, SIX).marks(0, 4).entry(address);
    }

    /** The file of textAt(), with its places from the document's words. */
    static RawFile fileOfTextAt(int address) {
        RawFile raw = RawFile.ofSize(SIX_SIZE).head(address, 52, 1, 2);
        raw.row(52, 1, 116, address, address, 6, 6, 5, 1).row(84, 4, 124, 0, 0, 32, 0, 4, 4);
        return raw.bytes(116, SIX).note(124, 32, 3, RawFile.sum(address, address, 0, SIX, new int[] {5}), 5);
    }

    /** Where the things of allThree() stand in its file. */
    static final int ROW_TEXT = 52;
    static final int ROW_CONST = 84;
    static final int ROW_DATA = 116;
    static final int ROW_NOTE = 148;
    static final int AT_TEXT = 180;
    static final int AT_CONST = 200;
    static final int AT_DATA = 203;
    static final int AT_NOTE = 208;
    static final int SIZE = 240;

    /** 20 bytes of TEXT: at 0 four bytes, at 4 two, at 6 two, at 8 four, at 16 four; offset 12 has no mark. */
    static final int[] TEXT = {0x13, 1, 2, 3, 0x41, 4, 0x82, 5, 0x6f, 6, 7, 8, 0, 0, 0, 0, 0xff, 9, 10, 11};
    static final int[] CONST = {0xc0, 0xc1, 0xc2};
    static final int[] DATA = {0xd0, 0xd1};
    static final int[] MARKS = {0b00011101, 0b00000001};

    /** TEXT at 4096, CONST at 4116 (right behind it), DATA at 8192 with 5 more; the entry is the mark at 4. */
    static Hand allThree(Check check) {
        Hand hand = new Hand(check).segment(0, 4096, 0).bytes(0, TEXT).segment(1, 4116, 0).bytes(1, CONST);
        return hand.segment(2, 8192, 5).bytes(2, DATA).marks(0, 4, 6, 8, 16).entry(4100);
    }

    static long sumOfAllThree() {
        return RawFile.sum(4100, 4096, 0, TEXT, 4116, 0, CONST, 8192, 5, DATA, MARKS);
    }

    /** The file of allThree(), with its places from the document's words. */
    static RawFile fileOfAllThree() {
        RawFile raw = RawFile.ofSize(SIZE).head(4100, 52, 1, 4);
        raw.row(ROW_TEXT, 1, AT_TEXT, 4096, 4096, 20, 20, 5, 1);
        raw.row(ROW_CONST, 1, AT_CONST, 4116, 4116, 3, 3, 4, 1);
        raw.row(ROW_DATA, 1, AT_DATA, 8192, 8192, 2, 7, 6, 1);
        raw.row(ROW_NOTE, 4, AT_NOTE, 0, 0, 32, 0, 4, 4);
        raw.bytes(AT_TEXT, TEXT).bytes(AT_CONST, CONST).bytes(AT_DATA, DATA);
        return raw.note(AT_NOTE, 32, 10, sumOfAllThree(), MARKS);
    }

    /** THE SUM covers all of an image but PAGE: so these calls tell that the READ image is allThree(), and no other. */
    static Hand readIsAllThree(Hand hand) {
        hand.told(0, 4100).told(1, 1).told(2, sumOfAllThree()).told(3, 5).told(4, 2);
        return hand.hasSegment(0, 4096, 20, 0).hasSegment(1, 4116, 3, 0).hasSegment(2, 8192, 2, 5);
    }

    static Hand madeIsAllThree(Hand hand) {
        return readIsAllThree(hand.write(SIZE).read());
    }

    /** The READ image as it is at first. */
    static Hand readIsEmpty(Hand hand) {
        hand.told(0, 0).told(1, 1).told(2, 558161692).told(3, 0).told(4, 0);
        return hand.hasNot(0).hasNot(1).hasNot(2);
    }

    static final int MOST_BYTES = 4096;
    static final int MOST_FILE = 16384;
    static final int LONG_TEXT = 179;
    static final int LONG_CONST = 8372;
    static final int LONG_DATA = 16563;
    static final int LONG_NOTE = 12468;

    /**
     * Both images with segments of up to 4096 bytes, all 0, in some 120 calls: 512 puts would be too many, so the
     * zeros between pages of 4096 are told to be their bytes. MARKS are at all even offsets, or at 0 alone.
     */
    static Hand longSegments(Check check, int text, int constant, int data, boolean allMarks) {
        byte[] marks = markBytes(text, allMarks);
        RawFile tail = new RawFile(Arrays.copyOf(marks, (marks.length + 3) / 4 * 4));
        Hand hand = new Hand(check).page(12).segment(0, LONG_TEXT, 0).bytes(0, 0, 0);
        hand.segment(1, LONG_CONST, 0).segment(2, LONG_DATA, 0).marks(0).entry(LONG_TEXT);
        hand.write(LONG_NOTE + 32).cut(LONG_NOTE + 28).feed(tail);
        longRow(hand, ROW_TEXT, AT_TEXT, text);
        longRow(hand, ROW_CONST, AT_TEXT + MOST_BYTES, constant);
        longRow(hand, ROW_DATA, AT_TEXT + 2 * MOST_BYTES, data);
        hand.spoilU4(ROW_NOTE + 16, 28 + tail.bytes.length).spoilU4(LONG_NOTE + 4, 8 + tail.bytes.length);
        hand.spoilU4(LONG_NOTE + 20, text / 2).spoilU4(LONG_NOTE + 24, RawFile.sum(LONG_TEXT,
            LONG_TEXT, 0, new byte[text], LONG_CONST, 0, new byte[constant], LONG_DATA, 0, new byte[data], marks));
        return hand.read().keep();
    }

    private static void longRow(Hand hand, int row, int begin, int length) {
        hand.spoilU4(row + 4, begin).spoilU4(row + 16, length).spoilU4(row + 20, length).spoilU2(row + 28, 1);
    }

    static byte[] markBytes(int text, boolean all) {
        byte[] marks = new byte[(text + 15) / 16];
        for (int offset = 0; offset < (all ? text : 1); offset += 2) {
            marks[offset / 16] |= (byte) (1 << offset % 16 / 2);
        }
        return marks;
    }

    /** Three segments of 4096 bytes, 2048 MARKS, and a FILE of 16,384 bytes; places and addresses are the same. */
    static Hand fullFile(Check check) {
        Hand hand = longSegments(check, MOST_BYTES, MOST_BYTES, MOST_BYTES, true).page(12);
        return hand.segment(0, 180, 0).segment(1, 4276, 0).segment(2, 12004, 0).entry(180).write(MOST_FILE);
    }
}
