/** Promise 9: write, and the file that it makes. */
public final class WritingTest {
    private static final Check CHECK = new Check("WritingTest");

    public static void main(String[] args) {
        wholeFile();
        filesByPage();
        flags();
        markBytesUpwards();
        badText();
        beyondMemory();
        commonMemory();
        badMarks();
        firstFaultCounts();
        tooLong();
        CHECK.finish();
    }

    private static void compare(String what, ImageFile x, RawFile want) {
        CHECK.due(what + ": write()", x.write(), want.bytes.length);
        CHECK.due(what + ": size()", x.size(), want.bytes.length);
        for (int k = 0; k < want.bytes.length; k++) {
            CHECK.due(what + ": byteAt(" + k + ")", x.byteAt(k), want.bytes[k] & 255);
        }
    }

    private static void wholeFile() {
        compare("all three", Samples.allThree(), Samples.fileOfAllThree());
        RawFile raw = RawFile.ofSize(156).head(64, 52, 1, 2);
        raw.row(52, 1, 116, 64, 64, 6, 6, 5, 1).row(84, 4, 124, 0, 0, 32, 0, 4, 4);
        raw.bytes(116, 0x13, 1, 2, 3, 0x41, 4);
        int[] text = {0x13, 1, 2, 3, 0x41, 4};
        raw.note(124, 32, 3, RawFile.sum(64, 64, 0, text, new int[] {5}), 5);
        compare("TEXT alone", Samples.textAt(64), raw);
    }

    /** Each segment begins at a place with its address's rest by the page, one without bytes too. */
    private static void filesByPage() {
        ImageFile x = Samples.textAt(70);
        x.page(6);
        x.segment(1, 1000, 0);
        x.segment(2, 2005, 9);
        x.put(2, 1, Samples.highest(0xdd));
        RawFile raw = RawFile.ofSize(348).head(70, 52, 1, 4);
        raw.row(52, 1, 198, 70, 70, 6, 6, 5, 64);
        raw.row(84, 1, 232, 1000, 1000, 0, 0, 4, 64);
        raw.row(116, 1, 277, 2005, 2005, 1, 10, 6, 64);
        raw.row(148, 4, 280, 0, 0, 32, 0, 4, 4);
        raw.bytes(198, 0x13, 1, 2, 3, 0x41, 4).bytes(277, 0xdd);
        int[] text = {0x13, 1, 2, 3, 0x41, 4};
        long sum = RawFile.sum(70, 70, 0, text, 1000, 0, 2005, 9, new int[] {0xdd}, new int[] {5});
        raw.note(280, 32, 3, sum, 5);
        compare("pages of 64", x, raw.cut(312));
    }

    private static void flags() {
        ImageFile x = Samples.textAt(64);
        x.mark(4, false);
        x.write();
        CHECK.due("flags without a SHORT MARK", x.byteAt(36), 0);
        CHECK.due("read()", x.read(), 0);
        x.mark(4, true);
        x.write();
        CHECK.due("flags with a SHORT MARK", x.byteAt(36), 1);
        CHECK.due("read()", x.read(), 0);
        for (int low = 0; low < 4; low++) {
            ImageFile y = new ImageFile();
            y.segment(0, 0, 0);
            y.put(0, 4, Samples.highest(0xf8 | low));
            y.mark(0, true);
            CHECK.due("write()", y.write(), 152);
            CHECK.due("flags by lowest bits " + low, y.byteAt(36), low == 3 ? 0 : 1);
        }
    }

    private static void markBytesUpwards() {
        int[] sizes = {2, 14, 16, 18, 32, 34, 62, 64, 66, 128, 130};
        for (int size : sizes) {
            ImageFile x = new ImageFile();
            x.segment(0, 0, 0);
            for (int k = 0; k < size; k += 2) {
                x.put(0, 2, 0);
                x.mark(k, true);
            }
            int markBytes = (size + 15) / 16;
            int begin = (116 + size + 3) / 4 * 4;
            CHECK.due("write() of " + size, x.write(), begin + 28 + (markBytes + 3) / 4 * 4);
            int last = size / 2 % 8 == 0 ? 255 : (1 << size / 2 % 8) - 1;
            CHECK.due("last MARK BYTE of " + size, x.byteAt(begin + 28 + markBytes - 1), last);
            CHECK.due("bytes behind the name of " + size, x.byteAt(begin + 4), 8 + (markBytes + 3) / 4 * 4);
            CHECK.due("half of " + size, x.byteAt(begin + 20), size / 2);
            for (int k = begin + 28 + markBytes; k < x.size(); k++) {
                CHECK.due("byteAt(" + k + ") behind the MARK BYTES", x.byteAt(k), 0);
            }
            CHECK.due("read()", x.read(), 0);
            CHECK.due("told(3) of " + size, x.told(3), size / 2);
        }
    }

    private static void badText() {
        ImageFile x = new ImageFile();
        CHECK.due("write() without TEXT", x.write(), -1);
        x.segment(1, 0, 0);
        x.put(1, 2, 0);
        CHECK.due("write() with CONST alone", x.write(), -1);
        x.segment(0, 100, 0);
        CHECK.due("write() with no bytes of TEXT", x.write(), -1);
        x.put(0, 3, 0);
        x.mark(0, true);
        x.entry(100);
        CHECK.due("write() with three bytes of TEXT", x.write(), -1);
        CHECK.due("size(): the FILE stays", x.size(), 0);
        x.put(0, 1, 0);
        CHECK.due("write() with four", x.write(), 52 + 96 + 4 + 2 + 2 + 32);
        x.put(0, 1, 0);
        CHECK.due("write() with five", x.write(), -1);
        CHECK.due("size(): the FILE stays", x.size(), 188);
    }

    private static void beyondMemory() {
        ImageFile x = Samples.textAt(131066);
        CHECK.due("TEXT up to the last address", x.write(), 156);
        x.segment(0, 131067, 0);
        x.entry(131067);
        CHECK.due("TEXT one beyond", x.write(), -2);
        x.segment(0, 131071, 0);
        CHECK.due("TEXT far beyond", x.write(), -2);
        ImageFile y = Samples.textAt(0);
        y.segment(1, 131069, 0);
        y.put(1, 3, 0);
        CHECK.due("CONST up to the last address", y.write(), 192);
        y.put(1, 1, 0);
        CHECK.due("CONST one beyond", y.write(), -2);
        y.drop(1);
        y.segment(2, 131072 - 32768, 32768);
        CHECK.due("DATA up to the last address", y.write(), 188);
        y.put(2, 1, 0);
        CHECK.due("DATA one beyond", y.write(), -2);
        y.segment(2, 131072 - 32768, 32767);
        CHECK.due("DATA with one byte and less MORE", y.write(), 188);
        y.segment(2, 131072 - 32767, 32767);
        CHECK.due("DATA one higher", y.write(), -2);
        CHECK.due("size(): the FILE stays", y.size(), 188);
    }

    private static void commonMemory() {
        int[][] touching = {{94, 2, 0}, {106, 2, 0}, {103, 0, 0}, {100, 0, 0}, {105, 0, 0}};
        int[][] meeting = {{95, 6, 0}, {105, 1, 0}, {100, 1, 0}, {98, 8, 0}, {102, 2, 0}};
        for (int s = 1; s <= 2; s++) {
            for (int[] t : touching) {
                CHECK.due("segment " + s + " at " + t[0], withSegment(s, t).write() > 0, true);
            }
            for (int[] t : meeting) {
                CHECK.due("segment " + s + " at " + t[0], withSegment(s, t).write(), -3);
            }
        }
        CHECK.due("MORE up to TEXT", withSegment(2, new int[] {90, 2, 8}).write() > 0, true);
        CHECK.due("MORE into TEXT", withSegment(2, new int[] {90, 2, 9}).write(), -3);
        CHECK.due("MORE alone into TEXT", withSegment(2, new int[] {105, 0, 1}).write(), -3);
        CHECK.due("MORE alone over TEXT", withSegment(2, new int[] {0, 0, 32768}).write(), -3);
        ImageFile x = withSegment(1, new int[] {200, 4, 0});
        x.segment(2, 204, 3);
        CHECK.yes("DATA right behind CONST", x.write() > 0);
        x.segment(2, 203, 3);
        CHECK.due("DATA in CONST", x.write(), -3);
        x.segment(2, 197, 3);
        CHECK.yes("DATA right ahead of CONST", x.write() > 0);
        x.segment(2, 198, 3);
        CHECK.due("DATA's MORE in CONST", x.write(), -3);
    }

    /** TEXT has the addresses 100 .. 105; the other segment an address, bytes, and more. */
    private static ImageFile withSegment(int s, int[] about) {
        ImageFile x = Samples.textAt(100);
        x.segment(s, about[0], about[2]);
        if (about[1] > 0) {
            x.put(s, about[1], 0);
        }
        return x;
    }

    private static void badMarks() {
        ImageFile x = Samples.textAt(64);
        x.mark(6, true);
        CHECK.due("a MARK at the end of TEXT", x.write(), -4);
        x.mark(6, false);
        x.mark(4094, true);
        CHECK.due("a MARK far behind TEXT", x.write(), -4);
        x.mark(4094, false);
        x.mark(2, true);
        CHECK.due("a MARK in an instruction", x.write(), -4);
        x.mark(0, false);
        x.entry(66);
        CHECK.due("the MARK ahead of it taken away", x.write(), 156);
        ImageFile y = new ImageFile();
        y.segment(0, 64, 0);
        y.put(0, 6, Samples.highest(1, 0, 2, 0, 3, 0));
        y.mark(0, true);
        y.mark(2, true);
        y.entry(64);
        CHECK.yes("two SHORT ones", y.write() > 0);
        y.mark(4, true);
        CHECK.due("four bytes, of which two are in TEXT", y.write(), -4);
        y.put(0, 2, 0);
        CHECK.yes("four bytes, all in TEXT", y.write() > 0);
        y.mark(6, true);
        CHECK.due("a MARK in the last one", y.write(), -4);
    }

    private static void firstFaultCounts() {
        ImageFile x = Samples.textAt(131070);
        x.segment(1, 131071, 0);
        x.put(1, 1, 0);
        x.mark(8, true);
        x.entry(1);
        x.put(0, 1, 0);
        CHECK.due("all five", x.write(), -1);
        x.put(0, 1, 0);
        CHECK.due("from 2 on", x.write(), -2);
        x.segment(0, 131064, 0);
        x.segment(1, 131070, 0);
        CHECK.due("from 3 on", x.write(), -3);
        x.segment(1, 0, 0);
        CHECK.due("from 4 on", x.write(), -4);
        x.mark(8, false);
        CHECK.due("5 alone", x.write(), -5);
        x.entry(131064);
        CHECK.yes("none", x.write() > 0);
    }

    private static void tooLong() {
        ImageFile x = Samples.longest();
        CHECK.due("write() of 16,384 bytes", x.write(), 16384);
        CHECK.due("size()", x.size(), 16384);
        CHECK.due("read()", x.read(), 0);
        CHECK.due("about(0, 2)", x.about(0, 2), 3656);
        x.put(2, 2, 0);
        CHECK.due("write() of 16,388 bytes", x.write(), -6);
        CHECK.due("size(): the FILE stays", x.size(), 16384);
        CHECK.due("byteAt(0): the FILE stays", x.byteAt(0), 127);
        CHECK.due("read(): the FILE stays", x.read(), 0);
        CHECK.due("about(2, 2)", x.about(2, 2), 1);
        x.mark(2, true);
        x.entry(0);
        CHECK.due("5 ahead of 6", x.write(), -5);
    }
}
