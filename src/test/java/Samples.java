/** Images and files that several tests begin from. */
final class Samples {
    private Samples() {
    }

    /** The numbers 0 .. 255 as the highest bytes of a long, the first one highest. */
    static long highest(int... bytes) {
        long eight = 0;
        for (int i = 0; i < 8; i++) {
            eight = eight << 8 | (i < bytes.length ? bytes[i] & 255 : 0);
        }
        return eight;
    }

    /** TEXT alone, at an address: an instruction of four bytes, then one of two; both marked, the first is the entry. */
    static ImageFile textAt(int address) {
        ImageFile x = new ImageFile();
        x.segment(0, address, 0);
        x.put(0, 6, highest(0x13, 1, 2, 3, 0x41, 4));
        x.mark(0, true);
        x.mark(4, true);
        x.entry(address);
        return x;
    }

    /** Where the things of allThree() stand in its file. */
    static final int ROW_TEXT = 52;
    static final int ROW_CONST = 84;
    static final int ROW_DATA = 116;
    static final int ROW_NOTE = 148;
    static final int AT_TEXT = 180;
    static final int AT_CONST = 200;
    static final int AT_DATA = 203;
    static final int AT_NOTE = 208;
    static final int SIZE = 240;

    /** 20 bytes of TEXT: at 0 four bytes, at 4 two, at 6 two, at 8 four, at 16 four; offset 12 has no mark. */
    static final int[] TEXT = {0x13, 1, 2, 3, 0x41, 4, 0x82, 5, 0x6f, 6, 7, 8, 0, 0, 0, 0, 0xff, 9, 10, 11};
    static final int[] CONST = {0xc0, 0xc1, 0xc2};
    static final int[] DATA = {0xd0, 0xd1};
    static final int[] MARKS = {0b00011101, 0b00000001};

    /** TEXT at 4096, CONST at 4116 (right behind it), DATA at 8192 with 5 more; the entry is the mark at 4. */
    static ImageFile allThree() {
        ImageFile x = new ImageFile();
        x.segment(0, 4096, 0);
        x.put(0, 8, highest(0x13, 1, 2, 3, 0x41, 4, 0x82, 5));
        x.put(0, 8, highest(0x6f, 6, 7, 8, 0, 0, 0, 0));
        x.put(0, 4, highest(0xff, 9, 10, 11));
        x.segment(1, 4116, 0);
        x.put(1, 3, highest(CONST));
        x.segment(2, 8192, 5);
        x.put(2, 2, highest(DATA));
        for (int offset : new int[] {0, 4, 6, 8, 16}) {
            x.mark(offset, true);
        }
        x.entry(4100);
        return x;
    }

    static long sumOfAllThree() {
        return RawFile.sum(4100, 4096, 0, TEXT, 4116, 0, CONST, 8192, 5, DATA, MARKS);
    }

    /** The file of allThree(), with its places from the document's words. */
    static RawFile fileOfAllThree() {
        RawFile raw = RawFile.ofSize(SIZE).head(4100, 52, 1, 4);
        raw.row(ROW_TEXT, 1, AT_TEXT, 4096, 4096, 20, 20, 5, 1);
        raw.row(ROW_CONST, 1, AT_CONST, 4116, 4116, 3, 3, 4, 1);
        raw.row(ROW_DATA, 1, AT_DATA, 8192, 8192, 2, 7, 6, 1);
        raw.row(ROW_NOTE, 4, AT_NOTE, 0, 0, 32, 0, 4, 4);
        raw.bytes(AT_TEXT, TEXT).bytes(AT_CONST, CONST).bytes(AT_DATA, DATA);
        return raw.note(AT_NOTE, 32, 10, sumOfAllThree(), MARKS);
    }

    /** An image whose file has just 16,384 bytes, made in 470 calls. */
    static ImageFile longest() {
        ImageFile x = new ImageFile();
        x.page(12);
        x.segment(0, 179, 0);
        for (int i = 0; i < 457; i++) {
            x.put(0, 8, 0);
        }
        x.segment(1, 7930, 0);
        x.put(1, 1, highest(1));
        x.segment(2, 12026, 0);
        x.put(2, 1, highest(2));
        x.mark(0, true);
        x.entry(179);
        return x;
    }
}
