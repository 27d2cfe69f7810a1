import java.util.Arrays;
import java.util.function.Consumer;

/** Promises 15 and 16: read and place, each fault with its place and its edges. */
public final class ReadingTest {
    private static final Check CHECK = new Check("ReadingTest");
    private static final int TEXT = Samples.ROW_TEXT;
    private static final int CONST = Samples.ROW_CONST;
    private static final int DATA = Samples.ROW_DATA;
    private static final int NOTE = Samples.ROW_NOTE;
    private static final int AT = Samples.AT_NOTE;
    private static final long TOP = 0xffffffffL;

    public static void main(String[] args) {
        good();
        header();
        headerNumbers();
        tableKinds();
        tablePlaces();
        tablePages();
        tableRights();
        tableAddresses();
        tableLengths();
        longSegments();
        longestText();
        sharedBytes();
        memory();
        note();
        noteLengths();
        marks();
        marksOfFourBytes();
        entrySumFlags();
        orderOfFaults();
        otherOrders();
        pages();
        faultKeepsImage();
        CHECK.finish();
    }

    /** Reads the sample file, altered; -1 for the place when there is no fault. */
    private static void due(String what, int fault, long place, Consumer<RawFile> change) {
        RawFile raw = Samples.fileOfAllThree();
        change.accept(raw);
        due(what, fault, place, raw);
    }

    private static void due(String what, int fault, long place, RawFile raw) {
        ImageFile x = raw.fed();
        CHECK.due(what + ": place() ahead of read()", x.place(), -1);
        CHECK.due(what + ": read()", x.read(), fault);
        CHECK.due(what + ": place()", x.place(), place);
        CHECK.due(what + ": told(3)", x.told(3), fault == 0 ? 5 : 0);
        CHECK.due(what + ": size()", x.size(), raw.bytes.length);
    }

    private static void u4(int fault, int at, long... numbers) {
        u4At(fault, at, at, numbers);
    }

    private static void u4At(int fault, int at, int place, long... numbers) {
        for (long number : numbers) {
            due("U4 " + number + " at " + at, fault, place, raw -> raw.u4(at, number));
        }
    }

    private static void u2(int fault, int at, int... numbers) {
        for (int number : numbers) {
            due("U2 " + number + " at " + at, fault, at, raw -> raw.u2(at, number));
        }
    }

    private static void b(int fault, int at, int... numbers) {
        for (int number : numbers) {
            due("byte " + number + " at " + at, fault, at, raw -> raw.bytes(at, number));
        }
    }

    /** THE SUM anew, for files in which something that it covers was changed. */
    private static RawFile mended(RawFile raw, Object... parts) {
        return raw.u4(AT + 24, RawFile.sum(parts));
    }

    private static void good() {
        due("as written", 0, -1, raw -> { });
        due("bytes behind all", 0, -1, raw -> raw.cut(Samples.SIZE + 5));
        due("other bytes between", 0, -1, raw -> raw.bytes(205, 1, 2, 3));
    }

    private static void header() {
        for (int n : new int[] {0, 1, 8, 51}) {
            due("n = " + n, 1, n, raw -> raw.cut(n));
        }
        due("n = 52", 10, 28, raw -> raw.cut(52));
        for (int k = 0; k < 4; k++) {
            b(2, k, 0, 255, 126);
        }
        b(3, 4, 0, 2, 255);
        b(4, 5, 0, 2, 255);
        b(5, 6, 0, 2, 255);
        for (int k = 7; k <= 15; k++) {
            b(6, k, 1, 128, 255);
        }
        u2(7, 16, 0, 1, 3, 258, 65535);
        u2(8, 18, 0, 242, 244, 499, 65535);
    }

    private static void headerNumbers() {
        u4(9, 20, 0, 2, 257, 0x01000001L, TOP);
        u4(9, 28, 0, 4, 48, 51, 53, 54, 55, TOP);
        u4(10, 28, Samples.SIZE - 128 + 4, 0x7ffffffcL, 0x80000000L, 0xfffffffcL);
        u4(9, 32, 1, 0x80000000L, TOP);
        u4(9, 36, 2, 3, 257, 0x80000000L, TOP);
        u2(9, 40, 0, 51, 53, 308);
        u2(9, 42, 0, 31, 33, 288);
        u2(9, 44, 0, 9, 256, 260, 65535);
        u2(9, 46, 1, 256, 65535);
        u2(9, 48, 1, 256, 65535);
        u2(9, 50, 1, 256, 65535);
        due("a TABLE of TEXT alone", 24, 44, raw -> raw.u2(44, 1));
        due("a TABLE of eight beyond n", 10, 28, raw -> raw.u2(44, 8));
        due("the TABLE one byte beyond n", 10, 28, raw -> raw.cut(179));
        due("the TABLE up to n", 12, TEXT + 4, raw -> raw.cut(180));
    }

    private static void tableKinds() {
        u4(11, TEXT, 2, 3, 5, 6, 257, 0x80000001L, TOP);
        u4(11, NOTE, 2, 3, 260, 0x80000000L);
        u4At(21, TEXT, 44, 0);
        u4At(24, NOTE, 44, 0);
        due("a segment as a NOTE", 13, DATA + 28, raw -> raw.u4(DATA, 4));
        due("a NOTE as a segment", 14, NOTE + 24, raw -> raw.u4(NOTE, 1));
        RawFile raw = Samples.fileOfAllThree();
        raw.row(CONST, 0, TOP, TOP, 7, TOP, 9, TOP, TOP);
        mended(raw, 4100, 4096, 0, Samples.TEXT, 8192, 5, Samples.DATA, Samples.MARKS);
        due("a row that counts for nothing", 0, -1, raw);
    }

    private static void tablePlaces() {
        u4(12, TEXT + 4, Samples.SIZE - 19, 0, 51, 0x80000000L, TOP);
        u4(12, NOTE + 4, Samples.SIZE - 31, 48, 0xfffffffcL);
        u4At(12, TEXT + 16, TEXT + 4, 61, 4096, 0x80000000L, TOP);
        u4At(12, NOTE + 16, NOTE + 4, 33, TOP);
        due("both high: together 2 to the 32", 12, TEXT + 4, raw -> raw.u4(TEXT + 4, 0xfffffff0L).u4(TEXT + 16, 16));
        due("bytes of the header", 12, TEXT + 4, raw -> raw.u4(TEXT + 4, 51));
        due("from 52 on: the TABLE's", 19, TEXT + 4, raw -> raw.u4(TEXT + 4, 52));
        for (long begin : new long[] {0, 1, 51, 52, 180, Samples.SIZE}) {
            RawFile raw = Samples.fileOfAllThree();
            raw.u4(CONST + 4, begin).u4(CONST + 16, 0).u4(CONST + 20, 0);
            mended(raw, 4100, 4096, 0, Samples.TEXT, 4116, 0, 8192, 5, Samples.DATA, Samples.MARKS);
            due("no bytes, at " + begin, 0, -1, raw);
        }
        due("one byte, below 52", 12, CONST + 4, raw -> raw.u4(CONST + 4, 51).u4(CONST + 16, 1).u4(CONST + 20, 1));
        due("no bytes, beyond n", 12, CONST + 4,
            raw -> raw.u4(CONST + 4, Samples.SIZE + 1).u4(CONST + 16, 0).u4(CONST + 20, 0));
    }

    private static void tablePages() {
        for (int row : new int[] {TEXT, CONST, DATA, NOTE}) {
            u4(13, row + 28, 0, 3, 5, 6, 4095, 4097, 8192, 0x80000000L, TOP);
        }
        u4At(0, TEXT + 28, -1, 2, 4);
        u4(13, TEXT + 28, 8, 16, 4096);
        u4At(0, CONST + 28, -1, 1, 2, 4);
        u4(13, CONST + 28, 8, 64);
        u4(13, DATA + 28, 2, 4096);
        u4At(0, NOTE + 28, -1, 1, 2, 4, 8, 1024, 4096);
        u4At(13, NOTE + 4, NOTE + 28, 205, 206, 207);
        due("rests of a high address", 13, TEXT + 28, raw -> raw.u4(TEXT + 8, 0x80000001L).u4(TEXT + 28, 2));
        due("rests of a high address, the same", 15, TEXT + 8, raw -> raw.u4(TEXT + 8, 0x80000004L).u4(TEXT + 28, 8));
    }

    private static void tableRights() {
        u4(14, TEXT + 24, 0, 1, 2, 3, 7, 8, 261, 0x80000005L, TOP);
        u4(14, CONST + 24, 0, 3, 7, 5);
        u4(14, DATA + 24, 7, 5, 4, 2);
        u4(14, NOTE + 24, 0, 5, 6, 3, 260, 0x80000004L);
        due("TEXT as CONST, then CONST", 14, CONST + 24, raw -> raw.u4(TEXT + 24, 4));
        due("a second NOTE", 14, NOTE + 24, raw -> raw.row(DATA, 4, 208, 0, 0, 0, 0, 4, 4));
    }

    private static void tableAddresses() {
        u4(15, TEXT + 8, 131072, 0x80000000L, TOP);
        u4(15, DATA + 8, 131072, 196608, TOP);
        u4(16, TEXT + 8 + 4, 0, 4095, 4097, 69632, 0x80001000L);
        u4At(16, DATA + 8, DATA + 12, 131071, 0);
        u4(15, NOTE + 8, 1, 4, 4096, 0x80000000L);
        u4(16, NOTE + 12, 1, 4, 4096, TOP);
    }

    private static void tableLengths() {
        u4(18, TEXT + 20, 0, 19, 21, 0x80000014L, TOP);
        u4(18, CONST + 20, 0, 2, 4, 32771);
        u4(18, DATA + 20, 0, 1, 2 + 32769, 0x80000002L, TOP);
        u4(18, NOTE + 20, 1, 32, TOP);
        for (int more : new int[] {0, 1, 32767, 32768}) {
            RawFile raw = Samples.fileOfAllThree().u4(DATA + 20, 2 + more);
            mended(raw, 4100, 4096, 0, Samples.TEXT, 4116, 0, Samples.CONST, 8192, more, Samples.DATA, Samples.MARKS);
            due("MORE " + more, 0, -1, raw);
        }
    }

    /** Above 4096 bytes a file must be long: zeros between its pages are told as the bytes of CONST. */
    private static void longSegments() {
        int[][] cases = {{4095, 29}, {4096, 29}, {4097, 17}, {4098, 17}, {4130, 17}, {4131, 12}};
        for (int[] c : cases) {
            for (int sixth = 0; sixth < 2; sixth++) {
                ImageFile x = Samples.textAt(0);
                x.page(12);
                x.segment(1, 4102, 0);
                x.segment(2, 16389, 0);
                CHECK.due("write() of pages", x.write(), 8232);
                x.spoil(CONST + 16, c[0]);
                x.spoil(CONST + 17, c[0] >> 8);
                x.spoil(CONST + 20, sixth * c[0]);
                x.spoil(CONST + 21, sixth * c[0] >> 8);
                int fault = sixth == 0 && c[1] == 29 ? 18 : c[1];
                int place = fault == 29 ? 8200 + 24 : CONST + (fault == 18 ? 20 : fault == 17 ? 16 : 4);
                CHECK.due("read() with " + c[0], x.read(), fault);
                CHECK.due("place() with " + c[0], x.place(), place);
            }
        }
    }

    /** 4096 bytes of TEXT with a MARK at each even offset: all but two bytes are zeros between pages. */
    private static void longestText() {
        ImageFile x = new ImageFile();
        x.page(12);
        x.segment(0, 0, 0);
        x.put(0, 2, 0);
        x.mark(0, true);
        x.segment(2, 8192, 0);
        CHECK.due("write() of two pages", x.write(), 8192 + 32);
        x.cut(8192 + 28);
        for (int i = 0; i < 32; i++) {
            x.feed(8, -1);
        }
        byte[] marks = new byte[256];
        Arrays.fill(marks, (byte) -1);
        long sum = RawFile.sum(0, 0, 0, new byte[4096], 8192, 0, marks);
        spoilU4(x, 52 + 16, 4096);
        spoilU4(x, 52 + 20, 4096);
        spoilU4(x, 116 + 16, 284);
        spoilU4(x, 8192 + 4, 264);
        spoilU4(x, 8192 + 20, 2048);
        spoilU4(x, 8192 + 24, sum);
        CHECK.due("read() of the longest TEXT", x.read(), 0);
        CHECK.due("about(0, 2)", x.about(0, 2), 4096);
        CHECK.due("told(2)", x.told(2), (int) sum);
        CHECK.due("told(3)", x.told(3), 2048);
        CHECK.due("told(4)", x.told(4), 2048);
        CHECK.due("marked(4094)", x.marked(4094), 2);
        CHECK.due("marked(4096)", x.marked(4096), 0);
        CHECK.due("markBelow(4095)", x.markBelow(4095), 4094);
        CHECK.due("markBelow(131071)", x.markBelow(131071), 4094);
        x.keep();
        CHECK.due("put() behind 4096 bytes", x.put(0, 1, 0), false);
        CHECK.due("mark(4094, true)", x.mark(4094, true), false);
        CHECK.due("write() of what was kept", x.write(), 8192 + 284);
        CHECK.due("read()", x.read(), 0);
        x.spoil(4096 + 4094, 3);
        CHECK.due("read() with four bytes at the end", x.read(), 27);
        CHECK.due("place()", x.place(), 8192 + 28 + 255);
        x.spoil(4096 + 14, 3);
        CHECK.due("read() with four bytes at 14", x.read(), 27);
        CHECK.due("place()", x.place(), 8192 + 28);
    }

    private static void spoilU4(ImageFile x, int at, long number) {
        for (int i = 0; i < 4; i++) {
            x.spoil(at + i, (int) (number >>> 8 * i));
        }
    }

    private static void sharedBytes() {
        due("TEXT in the TABLE", 19, TEXT + 4, raw -> raw.u4(TEXT + 4, 179));
        due("TEXT right ahead of a TABLE", 19, TEXT + 4, raw -> raw.u4(TEXT + 4, 160));
        due("CONST in TEXT's last", 19, CONST + 4, raw -> raw.u4(CONST + 4, 199));
        due("CONST in TEXT", 19, CONST + 4, raw -> raw.u4(CONST + 4, 185));
        due("DATA in CONST's last", 19, DATA + 4, raw -> raw.u4(DATA + 4, 202));
        due("DATA's last is TEXT's first", 19, DATA + 4, raw -> raw.u4(DATA + 4, 179));
        due("the NOTE in DATA", 19, NOTE + 4, raw -> raw.u4(NOTE + 4, 204).u4(NOTE + 16, 28));
        due("all of the TABLE and more", 19, TEXT + 4,
            raw -> raw.u4(TEXT + 4, 52).u4(TEXT + 16, 140).u4(TEXT + 20, 140));
        due("DATA ahead in the TABLE, CONST in it", 19, DATA + 4, raw -> {
            raw.row(CONST, 1, 201, 8192, 8192, 2, 7, 6, 1);
            raw.row(DATA, 1, 200, 4116, 4116, 3, 3, 4, 1);
        });
        due("none with what is 0", 29, AT + 24, raw -> raw.row(CONST, 0, 180, 0, 0, 20, 20, 0, 0));
        due("the NOTE ahead, DATA in it", 19, NOTE + 4, raw -> {
            raw.row(DATA, 4, AT, 0, 0, 32, 0, 4, 4);
            raw.row(NOTE, 1, AT + 30, 8192, 8192, 2, 7, 6, 1);
        });
    }

    private static void memory() {
        due("TEXT without bytes", 21, 44, raw -> raw.u4(TEXT + 16, 0).u4(TEXT + 20, 0));
        due("TEXT of 19", 21, 44, raw -> raw.u4(TEXT + 16, 19).u4(TEXT + 20, 19));
        due("no TEXT", 21, 44, raw -> raw.u4(TEXT, 0));
        due("TEXT beyond", 22, TEXT + 20, raw -> raw.u4(TEXT + 8, 131053).u4(TEXT + 12, 131053));
        due("TEXT not beyond", 28, 24, raw -> raw.u4(TEXT + 8, 131052).u4(TEXT + 12, 131052));
        due("CONST beyond", 22, CONST + 20, raw -> raw.u4(CONST + 8, 131070).u4(CONST + 12, 131070));
        due("CONST not beyond", 29, AT + 24, raw -> raw.u4(CONST + 8, 131069).u4(CONST + 12, 131069));
        due("DATA beyond", 22, DATA + 20, raw -> raw.u4(DATA + 8, 131066).u4(DATA + 12, 131066));
        due("DATA not beyond", 29, AT + 24, raw -> raw.u4(DATA + 8, 131065).u4(DATA + 12, 131065));
        due("TEXT and DATA beyond: TEXT", 22, TEXT + 20, raw -> raw.u4(DATA + 8, 131066).u4(DATA + 12, 131066)
            .u4(TEXT + 8, 131071).u4(TEXT + 12, 131071));
        due("0 and 1", 23, CONST + 8, raw -> raw.u4(CONST + 8, 4115).u4(CONST + 12, 4115));
        due("0 and 2", 23, DATA + 8, raw -> raw.u4(DATA + 8, 4090).u4(DATA + 12, 4090));
        due("0 and 2 do not meet", 29, AT + 24, raw -> raw.u4(DATA + 8, 4089).u4(DATA + 12, 4089));
        due("1 and 2", 23, DATA + 8, raw -> raw.u4(DATA + 8, 4118).u4(DATA + 12, 4118));
        due("0 and 2, 1 and 2", 23, DATA + 8, raw -> raw.u4(DATA + 8, 4114).u4(DATA + 12, 4114));
        due("1 ahead of 0 in the TABLE", 23, CONST + 8, raw -> {
            raw.row(TEXT, 1, 200, 4115, 4115, 3, 3, 4, 1);
            raw.row(CONST, 1, 180, 4096, 4096, 20, 20, 5, 1);
        });
        due("0 and 1 first, though 1 and 2 stand ahead", 23, DATA + 8, raw -> {
            raw.row(TEXT, 1, 203, 4090, 4090, 2, 1002, 6, 1);
            raw.row(CONST, 1, 200, 4115, 4115, 3, 3, 4, 1);
            raw.row(DATA, 1, 180, 4096, 4096, 20, 20, 5, 1);
        });
    }

    private static void note() {
        u4(25, AT, 0, 5, 7, 262, 0x80000006L);
        u4(25, AT + 4, 0, 11, 13, 16, 0x8000000cL);
        u4(25, AT + 8, 0, 2, 257, 0x80000001L);
        for (int i = 0; i < 8; i++) {
            b(25, AT + 12 + i, 1, 64, 255);
        }
        u4(25, AT + 20, 0, 9, 11, 20, 0x8000000aL);
        due("no NOTE", 24, 44, raw -> raw.u4(NOTE, 0));
        due("no NOTE, three rows", 24, 44, raw -> raw.u2(44, 3));
    }

    private static void noteLengths() {
        u4(25, NOTE + 16, 0, 1, 20, 27);
        for (int length : new int[] {28, 29, 31, 33, 36, 40}) {
            RawFile raw = Samples.fileOfAllThree().cut(Samples.SIZE + 20);
            raw.u4(NOTE + 16, length).u4(AT + 4, length - 20);
            due("a NOTE of " + length, 25, NOTE + 16, raw);
        }
        due("its length ahead of its numbers", 25, NOTE + 16, raw -> raw.u4(NOTE + 16, 27).u4(AT, 0));
        due("its numbers ahead of its last length", 25, AT + 20,
            raw -> raw.u4(NOTE + 16, 28).u4(AT + 4, 8).u4(AT + 20, 8));
        due("what is behind the name", 25, AT + 4, raw -> raw.u4(NOTE + 16, 28));
        due("the numbers in their order", 25, AT + 8, raw -> raw.u4(AT + 8, 0).bytes(AT + 12, 0).u4(AT + 20, 0));
    }

    private static void marks() {
        // TEXT has 20 bytes: bits 0 and 1 of the second MARK BYTE have an offset in it.
        b(26, AT + 29, 0b101, 0b10000001, 0b1000, 255);
        b(26, AT + 30, 1, 128, 255);
        b(26, AT + 31, 1, 128, 255);
        b(27, AT + 28, 0b00011111, 0b00111101);
        b(27, AT + 29, 0b11);
        due("27: by MARKS rising", 27, AT + 28, raw -> raw.bytes(AT + 28, 0b00111101, 0b11));
        due("27: SHORT at the end of TEXT", 29, AT + 24, raw -> raw.bytes(AT + 29, 0b10));
        due("27: four bytes at the end of TEXT", 27, AT + 29,
            raw -> raw.bytes(AT + 29, 0b10).bytes(Samples.AT_TEXT + 18, 0x0b));
        due("27: four bytes run into a MARK of the next MARK BYTE", 27, AT + 28,
            raw -> raw.bytes(AT + 28, 0b10011101).bytes(Samples.AT_TEXT + 14, 3));
        due("27: two bytes end at it", 29, AT + 24,
            raw -> raw.bytes(AT + 28, 0b10011101).bytes(Samples.AT_TEXT + 14, 2));
    }

    private static void marksOfFourBytes() {
        // Sixteen bytes of TEXT fill one MARK BYTE: no bit is behind, three bytes are.
        ImageFile x = new ImageFile();
        x.segment(0, 0, 0);
        for (int i = 0; i < 8; i++) {
            x.put(0, 2, 0);
            x.mark(2 * i, true);
        }
        x.write();
        CHECK.due("read() with a full MARK BYTE", x.read(), 0);
        CHECK.due("told(3)", x.told(3), 8);
        x.spoil(132 + 29, 1);
        CHECK.due("read() with a byte behind it", x.read(), 26);
        CHECK.due("place()", x.place(), 161);
        ImageFile y = new ImageFile();
        y.segment(0, 0, 0);
        y.put(0, 2, 0);
        y.mark(0, true);
        y.write();
        y.spoil(120 + 28, 3);
        CHECK.due("read() with a bit behind the only one", y.read(), 26);
        CHECK.due("place()", y.place(), 148);
    }

    private static void entrySumFlags() {
        u4At(28, 24, 24, 0, 4, 4097, 4098, 4108, 4116, 8192, 0x80001000L, TOP);
        u4At(29, 24, AT + 24, 4096, 4102, 4104, 4112);
        RawFile entry = Samples.fileOfAllThree().u4(24, 4112);
        mended(entry, 4112, 4096, 0, Samples.TEXT, 4116, 0, Samples.CONST, 8192, 5, Samples.DATA, Samples.MARKS);
        due("another ENTRY", 0, -1, entry);
        for (int k = 0; k < 4; k++) {
            int at = AT + 24 + k;
            due("THE SUM, byte " + at, 29, AT + 24, raw -> raw.bytes(at, raw.bytes[at] ^ 0x80));
        }
        due("a byte of TEXT", 29, AT + 24, raw -> raw.bytes(Samples.AT_TEXT + 19, 12));
        due("a byte of CONST", 29, AT + 24, raw -> raw.bytes(Samples.AT_CONST, 12));
        due("a byte of DATA", 29, AT + 24, raw -> raw.bytes(Samples.AT_DATA + 1, 12));
        due("MORE", 29, AT + 24, raw -> raw.u4(DATA + 20, 8));
        u4(30, 36, 0);
        RawFile none = Samples.fileOfAllThree().bytes(AT + 28, 0b00010001).u4(24, 4096);
        int[] marks = {0b00010001, 1};
        mended(none, 4096, 4096, 0, Samples.TEXT, 4116, 0, Samples.CONST, 8192, 5, Samples.DATA, marks);
        ImageFile x = none.fed();
        CHECK.due("flags 1 and no SHORT MARK: read()", x.read(), 30);
        CHECK.due("flags 1 and no SHORT MARK: place()", x.place(), 36);
        x.spoil(36, 0);
        CHECK.due("flags 0 and no SHORT MARK: read()", x.read(), 0);
        CHECK.due("flags 0 and no SHORT MARK: place()", x.place(), -1);
        CHECK.due("flags 0 and no SHORT MARK: told(4)", x.told(4), 0);
    }

    /** One fault upon another, from the last looked for to the first: each comes ahead of all before it. */
    private static void orderOfFaults() {
        ImageFile x = Samples.fileOfAllThree().fed();
        int[][] steps = {
            {36, 0, 30, 36}, {AT + 24, 1, 29, AT + 24}, {24, 5, 28, 24}, {AT + 28, 0x1f, 27, AT + 28},
            {AT + 31, 9, 26, AT + 31}, {AT + 20, 9, 25, AT + 20}, {AT + 12, 0, 25, AT + 12}, {AT, 0, 25, AT},
            {NOTE, 0, 24, 44}
        };
        run(x, steps);
        ImageFile y = Samples.fileOfAllThree().fed();
        y.spoil(24, 5);
        y.spoil(AT, 5);
        int[][] more = {
            {CONST + 8, 0x13, 16, CONST + 12}, {CONST + 12, 0x13, 23, CONST + 8},
            {DATA + 10, 1, 16, DATA + 12}, {DATA + 14, 1, 23, CONST + 8},
            {DATA + 9, 0xff, 16, DATA + 12}, {DATA + 13, 0xff, 23, CONST + 8},
            {DATA + 8, 0xfa, 16, DATA + 12}, {DATA + 12, 0xfa, 22, DATA + 20},
            {TEXT + 16, 19, 18, TEXT + 20}, {TEXT + 20, 19, 21, 44},
            {NOTE + 4, 0xcc, 19, NOTE + 4}, {NOTE + 20, 1, 18, NOTE + 20}, {NOTE + 12, 1, 16, NOTE + 12},
            {NOTE + 8, 1, 15, NOTE + 8}, {NOTE + 24, 5, 14, NOTE + 24}, {NOTE + 28, 3, 13, NOTE + 28},
            {NOTE + 5, 1, 12, NOTE + 4}, {NOTE, 2, 11, NOTE},
            {DATA + 4, 0xc8, 19, DATA + 4}, {DATA + 20, 1, 18, DATA + 20}, {DATA + 12, 1, 16, DATA + 12},
            {DATA + 11, 1, 15, DATA + 8}, {DATA + 24, 4, 14, DATA + 24}, {DATA + 28, 5, 13, DATA + 28},
            {DATA + 16, 200, 12, DATA + 4}, {DATA, 5, 11, DATA}, {CONST, 6, 11, CONST}, {TEXT, 7, 11, TEXT},
            {28, 116, 10, 28}, {50, 1, 9, 50}, {48, 1, 9, 48}, {46, 1, 9, 46}, {44, 9, 9, 44}, {42, 1, 9, 42},
            {40, 1, 9, 40}, {36, 2, 9, 36}, {32, 1, 9, 32}, {28, 3, 9, 28}, {20, 2, 9, 20}, {18, 1, 8, 18},
            {16, 1, 7, 16}, {15, 1, 6, 15}, {7, 1, 6, 7}, {6, 2, 5, 6}, {5, 2, 4, 5}, {4, 2, 3, 4}, {3, 1, 2, 3},
            {0, 1, 2, 0}
        };
        run(y, more);
        y.cut(51);
        CHECK.due("at last: read()", y.read(), 1);
        CHECK.due("at last: place()", y.place(), 51);
    }

    private static void run(ImageFile x, int[][] steps) {
        for (int[] step : steps) {
            x.spoil(step[0], step[1]);
            String what = "spoil(" + step[0] + ", " + step[1] + ")";
            CHECK.due(what + ": read()", x.read(), step[2]);
            CHECK.due(what + ": place()", x.place(), step[3]);
        }
    }

    /** The TABLE behind all else, the NOTE first in it, segments in another order, and rows of 0 up to eight. */
    private static void otherOrders() {
        RawFile raw = RawFile.ofSize(112 + 256).head(4100, 112, 1, 8);
        raw.row(112, 4, 52, 0, 0, 32, 0, 4, 1);
        raw.row(112 + 32, 1, 104, 8192, 8192, 2, 7, 6, 1);
        raw.row(112 + 64, 0, 1, 1, 2, 3, 4, 5, 6);
        raw.row(112 + 96, 1, 84, 4096, 4096, 20, 20, 5, 4);
        raw.row(112 + 224, 1, 106, 4116, 4116, 3, 3, 4, 2);
        raw.note(52, 32, 10, Samples.sumOfAllThree(), Samples.MARKS);
        raw.bytes(84, Samples.TEXT).bytes(104, Samples.DATA).bytes(106, Samples.CONST);
        due("another order", 0, -1, raw);
        ImageFile x = raw.fed();
        x.read();
        CHECK.due("told(1)", x.told(1), 4);
        CHECK.due("byteIn(4116)", x.byteIn(4116), 0xc0);
        CHECK.due("byteIn(8192)", x.byteIn(8192), 0xd0);
        CHECK.due("wordIn(4096)", x.wordIn(4096), 0x03020113);
        x.keep();
        RawFile want = Samples.fileOfAllThree();
        want.u4(TEXT + 28, 4).u4(CONST + 28, 4).u4(DATA + 28, 4).u4(DATA + 4, 204).bytes(203, 0, 0xd0, 0xd1);
        CHECK.due("write()", x.write(), Samples.SIZE);
        for (int k = 0; k < Samples.SIZE; k++) {
            CHECK.due("byteAt(" + k + ")", x.byteAt(k), want.bytes[k] & 255);
        }
        due("CONST in the TABLE's first byte", 19, 112 + 228, raw.copy().u4(112 + 228, 110));
        due("CONST up to the TABLE", 0, -1, raw.copy().u4(112 + 228, 108).bytes(108, Samples.CONST));
        due("a second DATA", 14, 112 + 64 + 24, raw.copy().row(112 + 64, 1, 0, 0, 0, 0, 0, 6, 1));
        due("a second NOTE", 14, 112 + 64 + 24, raw.copy().row(112 + 64, 4, 0, 0, 0, 0, 0, 4, 1));
    }

    private static void pages() {
        due("PAGE is told by segments alone", 0, -1, raw -> raw.u4(NOTE + 28, 4096));
        ImageFile x = Samples.fileOfAllThree().u4(NOTE + 28, 4096).u4(TEXT + 28, 2).u4(CONST + 28, 4).fed();
        x.read();
        CHECK.due("the greatest PAGE", x.told(1), 4);
        ImageFile y = Samples.fileOfAllThree().u4(TEXT + 28, 4).u4(CONST + 28, 2).fed();
        y.read();
        CHECK.due("the greatest PAGE", y.told(1), 4);
    }

    private static void faultKeepsImage() {
        ImageFile x = Samples.fileOfAllThree().fed();
        CHECK.due("read()", x.read(), 0);
        CHECK.due("place()", x.place(), -1);
        int[][] wrongs = {{36, 0, 30}, {AT + 24, 77, 29}, {24, 1, 28}, {AT, 7, 25}, {NOTE, 3, 11}, {0, 0, 2}};
        for (int[] wrong : wrongs) {
            x.spoil(wrong[0], wrong[1]);
            CHECK.due("read()", x.read(), wrong[2]);
            CHECK.due("place()", x.place(), wrong[2] == 25 ? AT : wrong[0]);
            CHECK.due("told(0) stays", x.told(0), 4100);
            CHECK.due("told(2) stays", x.told(2), (int) Samples.sumOfAllThree());
            CHECK.due("told(3) stays", x.told(3), 5);
            CHECK.due("about(2, 3) stays", x.about(2, 3), 5);
            CHECK.due("byteIn(8193) stays", x.byteIn(8193), 0xd1);
        }
        x.cut(0);
        CHECK.due("place() is the latest read()'s", x.place(), 0);
        x.keep();
        CHECK.due("write() of what stayed", x.write(), Samples.SIZE);
        CHECK.due("place() after write()", x.place(), 0);
        CHECK.due("read()", x.read(), 0);
        CHECK.due("place()", x.place(), -1);
        smallerAfterLarger();
    }

    /** What an earlier file told must not shine through. */
    private static void smallerAfterLarger() {
        ImageFile x = Samples.fileOfAllThree().fed();
        x.read();
        x.cut(0);
        ImageFile small = Samples.textAt(64);
        small.write();
        RawFile.of(small).feedTo(x);
        CHECK.due("read() of a smaller one", x.read(), 0);
        CHECK.due("told(3)", x.told(3), 2);
        CHECK.due("told(4)", x.told(4), 1);
        CHECK.due("about(0, 2)", x.about(0, 2), 6);
        CHECK.due("about(1, 0)", x.about(1, 0), 0);
        CHECK.due("about(2, 0)", x.about(2, 0), 0);
        CHECK.due("byteIn(4096)", x.byteIn(4096), -1);
        CHECK.due("byteIn(70)", x.byteIn(70), -1);
    }
}
