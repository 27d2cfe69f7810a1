/** Promises 1 to 8: a new object, clear, entry, page, segment, drop, put, mark. */
public final class MakingTest {
    private static final Check CHECK = new Check("MakingTest");

    public static void main(String[] args) {
        newObject();
        clear();
        entry();
        page();
        segment();
        segmentRefused();
        drop();
        put();
        putRefused();
        putUpTo4096();
        mark();
        CHECK.finish();
    }

    private static void newObject() {
        ImageFile x = new ImageFile();
        CHECK.due("NONE", ImageFile.NONE, -1);
        CHECK.due("size() at first", x.size(), 0);
        CHECK.due("byteAt(0) at first", x.byteAt(0), -1);
        CHECK.due("place() at first", x.place(), -1);
        CHECK.due("ENTRY at first", x.told(0), 0);
        CHECK.due("PAGE at first", x.told(1), 1);
        CHECK.due("THE SUM at first", x.told(2), (int) RawFile.sum(0));
        CHECK.due("MARKS at first", x.told(3), 0);
        CHECK.due("SHORT at first", x.told(4), 0);
        for (int s = 0; s < 3; s++) {
            CHECK.due("about(" + s + ", 0) at first", x.about(s, 0), 0);
            CHECK.due("drop(" + s + ") at first", x.drop(s), false);
            CHECK.due("put(" + s + ") at first", x.put(s, 1, 0), false);
        }
        CHECK.due("byteIn(0) at first", x.byteIn(0), -1);
        CHECK.due("rights(0) at first", x.rights(0), 0);
        CHECK.due("marked(0) at first", x.marked(0), 0);
        CHECK.due("markBelow(0) at first", x.markBelow(0), -1);
        CHECK.due("mark(0, false) at first", x.mark(0, false), false);
        CHECK.due("mark(4094, false) at first", x.mark(4094, false), false);
        CHECK.due("write() at first", x.write(), -1);
        CHECK.due("read() at first", x.read(), 1);
        CHECK.due("place() then", x.place(), 0);
        twoObjectsAreApart();
    }

    private static void twoObjectsAreApart() {
        ImageFile x = Samples.textAt(64);
        x.write();
        x.read();
        ImageFile y = new ImageFile();
        CHECK.due("write() of another object", y.write(), -1);
        CHECK.due("size() of another object", y.size(), 0);
        CHECK.due("told(3) of another object", y.told(3), 0);
        CHECK.due("told(3) of the first one", x.told(3), 2);
    }

    private static void clear() {
        ImageFile x = Samples.allThree();
        x.page(5);
        CHECK.yes("write() before clear()", x.write() > 0);
        int size = x.size();
        CHECK.due("read() before clear()", x.read(), 0);
        x.clear();
        CHECK.due("write() after clear()", x.write(), -1);
        CHECK.due("size() after clear()", x.size(), size);
        CHECK.due("about(0, 2): the READ image stays", x.about(0, 2), 20);
        CHECK.due("told(3): its MARKS stay", x.told(3), 5);
        for (int s = 0; s < 3; s++) {
            CHECK.due("drop(" + s + ") after clear()", x.drop(s), false);
        }
        CHECK.due("mark(0, false) after clear()", x.mark(0, false), false);
        x.segment(0, 0, 0);
        x.put(0, 2, 0);
        x.mark(0, true);
        CHECK.due("write(): ENTRY 0, PAGE 1, no other segment", x.write(), 52 + 64 + 4 + 32);
        CHECK.due("read()", x.read(), 0);
        CHECK.due("told(0)", x.told(0), 0);
        CHECK.due("told(1)", x.told(1), 1);
        CHECK.due("told(3)", x.told(3), 1);
    }

    private static void entry() {
        ImageFile x = Samples.textAt(64);
        x.entry(68);
        CHECK.due("write() with the other MARK as ENTRY", x.write(), 156);
        CHECK.due("its byte 24", x.byteAt(24), 68);
        for (int wrong : new int[] {0, 63, 65, 66, 70, 72, -1, Integer.MIN_VALUE, Integer.MAX_VALUE}) {
            x.entry(wrong);
            CHECK.due("write() with ENTRY " + wrong, x.write(), -5);
        }
        x.entry(64);
        CHECK.due("write() with a good ENTRY again", x.write(), 156);
    }

    private static void page() {
        ImageFile x = Samples.textAt(0);
        for (int power = 0; power <= 12; power++) {
            CHECK.due("page(" + power + ")", x.page(power), true);
            int size = 1 << power;
            int begin = (116 + size - 1) / size * size;
            CHECK.due("write() by page " + size, x.write(), (begin + 6 + 3) / 4 * 4 + 32);
            CHECK.due("the begin in the TABLE", x.byteAt(56) | x.byteAt(57) << 8, begin);
            CHECK.due("the PAGE in the TABLE", x.byteAt(80) | x.byteAt(81) << 8, size);
            CHECK.due("the first byte of TEXT", x.byteAt(begin), 0x13);
            CHECK.due("read()", x.read(), 0);
            CHECK.due("told(1)", x.told(1), size);
        }
        for (int wrong : new int[] {-1, 13, 32, 44, Integer.MIN_VALUE, Integer.MAX_VALUE}) {
            CHECK.due("page(" + wrong + ")", x.page(wrong), false);
        }
        x.write();
        CHECK.due("PAGE after refusals", x.byteAt(80) | x.byteAt(81) << 8, 4096);
    }

    private static void segment() {
        ImageFile x = Samples.textAt(64);
        CHECK.due("segment() once more", x.segment(0, 128, 0), true);
        x.entry(128);
        CHECK.due("write(): the BYTES stay", x.write(), 156);
        CHECK.due("read()", x.read(), 0);
        CHECK.due("about(0, 1)", x.about(0, 1), 128);
        CHECK.due("about(0, 2)", x.about(0, 2), 6);
        CHECK.due("about(0, 3)", x.about(0, 3), 0);
        CHECK.due("segment(2, 0, 32768)", x.segment(2, 90000, 32768), true);
        CHECK.due("write()", x.write(), 188);
        CHECK.due("read()", x.read(), 0);
        CHECK.due("about(2, 0)", x.about(2, 0), 1);
        CHECK.due("about(2, 1)", x.about(2, 1), 90000);
        CHECK.due("about(2, 2)", x.about(2, 2), 0);
        CHECK.due("about(2, 3)", x.about(2, 3), 32768);
        CHECK.due("segment(2, 131071, 1)", x.segment(2, 131071, 1), true);
        CHECK.due("segment(1, 131071, 0)", x.segment(1, 131071, 0), true);
        CHECK.due("write()", x.write(), 220);
        CHECK.due("read()", x.read(), 0);
        CHECK.due("about(2, 1)", x.about(2, 1), 131071);
        CHECK.due("about(2, 3)", x.about(2, 3), 1);
        CHECK.due("about(1, 1)", x.about(1, 1), 131071);
        CHECK.due("about(1, 2)", x.about(1, 2), 0);
    }

    private static void segmentRefused() {
        ImageFile x = Samples.textAt(64);
        x.segment(2, 500, 7);
        int[][] wrong = {
            {-1, 0, 0}, {3, 0, 0}, {Integer.MIN_VALUE, 0, 0}, {Integer.MAX_VALUE, 0, 0},
            {0, -1, 0}, {0, 131072, 0}, {1, -1, 0}, {1, 131072, 0}, {2, -1, 0}, {2, 131072, 0},
            {2, Integer.MIN_VALUE, 0}, {2, Integer.MAX_VALUE, 0},
            {0, 0, 1}, {0, 0, -1}, {1, 0, 1}, {1, 0, -1}, {2, 0, -1}, {2, 0, 32769},
            {2, 0, Integer.MAX_VALUE}, {2, 0, Integer.MIN_VALUE}, {0, 0, 32768}, {1, 0, 32768}
        };
        for (int[] w : wrong) {
            CHECK.due("segment(" + w[0] + ", " + w[1] + ", " + w[2] + ")", x.segment(w[0], w[1], w[2]), false);
        }
        CHECK.due("drop(1) after refusals", x.drop(1), false);
        CHECK.due("write() after refusals", x.write(), 188);
        CHECK.due("read()", x.read(), 0);
        CHECK.due("about(0, 1)", x.about(0, 1), 64);
        CHECK.due("about(2, 1)", x.about(2, 1), 500);
        CHECK.due("about(2, 3)", x.about(2, 3), 7);
    }

    private static void drop() {
        ImageFile x = Samples.allThree();
        for (int wrong : new int[] {-1, 3, Integer.MIN_VALUE, Integer.MAX_VALUE}) {
            CHECK.due("drop(" + wrong + ")", x.drop(wrong), false);
        }
        CHECK.due("write() with all three", x.write(), Samples.SIZE);
        CHECK.due("drop(2)", x.drop(2), true);
        CHECK.due("drop(2) again", x.drop(2), false);
        CHECK.due("put() into what is dropped", x.put(2, 1, 0), false);
        CHECK.due("write() without DATA", x.write(), 148 + 20 + 3 + 1 + 32);
        CHECK.due("segment() of what was dropped", x.segment(2, 8192, 0), true);
        CHECK.due("write(): it has no BYTES", x.write(), 180 + 20 + 3 + 1 + 32);
        CHECK.due("read()", x.read(), 0);
        CHECK.due("about(2, 2)", x.about(2, 2), 0);
        CHECK.due("about(2, 3)", x.about(2, 3), 0);
        CHECK.due("drop(0)", x.drop(0), true);
        CHECK.due("write() without TEXT", x.write(), -1);
        x.segment(0, 4096, 0);
        x.put(0, 8, 0);
        x.put(0, 8, 0);
        x.put(0, 2, 0);
        CHECK.due("write(): the MARKS stayed", x.write(), 180 + 18 + 3 + 3 + 32);
        CHECK.due("read()", x.read(), 0);
        CHECK.due("told(3)", x.told(3), 5);
        CHECK.due("told(4)", x.told(4), 5);
    }

    private static void put() {
        for (int n = 1; n <= 8; n++) {
            ImageFile x = Samples.textAt(64);
            x.segment(1, 1000, 0);
            CHECK.due("put(1, " + n + ")", x.put(1, n, 0xf1e2d3c4b5a69788L), true);
            CHECK.due("put(1, 1) behind", x.put(1, 1, 0x7fffffffffffffffL), true);
            x.write();
            CHECK.due("read()", x.read(), 0);
            CHECK.due("about(1, 2)", x.about(1, 2), n + 1);
            for (int i = 0; i < n; i++) {
                CHECK.due("byte " + i, x.byteIn(1000 + i), 0xff & (int) (0xf1e2d3c4b5a69788L >>> 56 - 8 * i));
            }
            CHECK.due("the byte behind", x.byteIn(1000 + n), 0x7f);
        }
    }

    private static void putRefused() {
        ImageFile x = Samples.textAt(64);
        for (int wrong : new int[] {0, -1, 9, Integer.MIN_VALUE, Integer.MAX_VALUE}) {
            CHECK.due("put(0, " + wrong + ")", x.put(0, wrong, -1), false);
        }
        for (int wrong : new int[] {-1, 1, 2, 3, Integer.MIN_VALUE, Integer.MAX_VALUE}) {
            CHECK.due("put(" + wrong + ", 1)", x.put(wrong, 1, -1), false);
        }
        CHECK.due("write() after refusals", x.write(), 156);
        x.read();
        CHECK.due("about(0, 2)", x.about(0, 2), 6);
        CHECK.due("about(1, 0)", x.about(1, 0), 0);
    }

    /** 4096 bytes are more than 512 puts can bring beside the other calls: a file tells most of them. */
    private static void putUpTo4096() {
        ImageFile x = Samples.textAt(0);
        x.page(12);
        x.segment(1, 4096, 0);
        x.put(1, 1, Samples.highest(1));
        x.segment(2, 8192, 0);
        x.write();
        RawFile raw = RawFile.of(x);
        byte[] zeros = new byte[4090];
        zeros[0] = 1;
        int[] text = {0x13, 1, 2, 3, 0x41, 4};
        raw.u4(84 + 16, 4090).u4(84 + 20, 4090);
        raw.u4((int) raw.getU4(148 + 4) + 24, RawFile.sum(0, 0, 0, text, 4096, 0, zeros, 8192, 0, new int[] {5}));
        ImageFile y = Samples.textAt(0);
        y.page(12);
        y.segment(1, 4096, 0);
        y.put(1, 1, Samples.highest(1));
        y.segment(2, 8192, 0);
        y.write();
        for (int k = 0; k < raw.bytes.length; k++) {
            if (raw.bytes[k] != (byte) y.byteAt(k)) {
                y.spoil(k, raw.bytes[k]);
            }
        }
        CHECK.due("read() of 4090 bytes", y.read(), 0);
        CHECK.due("about(1, 2)", y.about(1, 2), 4090);
        y.keep();
        CHECK.due("put() up to 4097", y.put(1, 7, -1), false);
        CHECK.due("put() up to 4098", y.put(1, 8, -1), false);
        CHECK.due("put() up to 4096", y.put(1, 6, 0x0102030405060708L), true);
        CHECK.due("put() up to 4097", y.put(1, 1, -1), false);
        CHECK.yes("write() of 4096 bytes", y.write() > 0);
        CHECK.due("read() of 4096 bytes", y.read(), 0);
        CHECK.due("about(1, 2)", y.about(1, 2), 4096);
        CHECK.due("its last byte", y.byteIn(8191), 6);
        CHECK.due("behind it", y.byteIn(8192), -1);
    }

    private static void mark() {
        ImageFile x = new ImageFile();
        for (int wrong : new int[] {-2, -1, 1, 3, 4093, 4095, 4096, 4098, Integer.MIN_VALUE, Integer.MAX_VALUE}) {
            CHECK.due("mark(" + wrong + ", true)", x.mark(wrong, true), false);
            CHECK.due("mark(" + wrong + ", false)", x.mark(wrong, false), false);
        }
        for (int offset : new int[] {0, 2, 14, 16, 30, 32, 4080, 4094}) {
            CHECK.due("mark(" + offset + ", false), there is none", x.mark(offset, false), false);
            CHECK.due("mark(" + offset + ", true)", x.mark(offset, true), true);
            CHECK.due("mark(" + offset + ", true) again", x.mark(offset, true), false);
            CHECK.due("mark(" + offset + ", false)", x.mark(offset, false), true);
            CHECK.due("mark(" + offset + ", false) again", x.mark(offset, false), false);
        }
        ImageFile y = Samples.textAt(64);
        y.mark(4, false);
        y.write();
        y.read();
        CHECK.due("told(3) with one MARK taken away", y.told(3), 1);
        CHECK.due("marked() where it was", y.marked(68), 0);
        CHECK.due("marked() where one is", y.marked(64), 4);
    }
}
