import java.util.function.Consumer;

/** Promises 15 and 16: read and place; and of the terms READING, each fault with its place and its edges. */
public final class ReadingTest {
    private static final Check CHECK = new Check("ReadingTest");
    private static final int NONE = -1;
    private static final int TEXT = Samples.ROW_TEXT;
    private static final int CONST = Samples.ROW_CONST;
    private static final int DATA = Samples.ROW_DATA;
    private static final int NOTE = Samples.ROW_NOTE;
    private static final int AT = Samples.AT_NOTE;
    private static final int[] ROWS = {TEXT, CONST, DATA, NOTE};
    private static final long TOP = 0xffffffffL;

    public static void main(String[] args) {
        read();
        place();
        header();
        headerNumbers();
        tableBounds();
        kinds();
        places();
        pages();
        rightsOfRows();
        addresses();
        lengths();
        sharedBytes();
        memory();
        note();
        marks();
        entrySumFlags();
        order();
        image();
        CHECK.finish();
    }

    private static Hand fresh() {
        return new Hand(CHECK);
    }

    /** Reads the sample file, altered: it has a fault, and the READ image stays the empty one. */
    private static void fault(int fault, long place, Consumer<RawFile> change) {
        RawFile raw = Samples.fileOfAllThree();
        change.accept(raw);
        fault(fault, place, raw);
    }

    private static void fault(int fault, long place, RawFile raw) {
        Hand hand = fresh().feed(raw).place(NONE).read(fault, (int) place).size(raw.bytes.length);
        Samples.readIsEmpty(hand);
    }

    /** Reads the sample file, altered in what the image doesn't tell. */
    private static void none(Consumer<RawFile> change) {
        RawFile raw = Samples.fileOfAllThree();
        change.accept(raw);
        none(raw);
    }

    private static void none(RawFile raw) {
        fresh().feed(raw).place(NONE).read().told(0, 4100).told(2, Samples.sumOfAllThree()).told(3, 5).told(4, 2)
            .size(raw.bytes.length);
    }

    /** Reads the sample file, altered in what THE SUM covers; that is mended, so there is no fault. */
    private static Hand mended(Consumer<RawFile> change, Object... parts) {
        RawFile raw = Samples.fileOfAllThree();
        change.accept(raw);
        return fresh().feed(raw.u4(AT + 24, RawFile.sum(parts))).read().told(2, RawFile.sum(parts));
    }

    private static void u4(int fault, int at, long... numbers) {
        u4At(fault, at, at, numbers);
    }

    private static void u4At(int fault, int place, int at, long... numbers) {
        for (long number : numbers) {
            fault(fault, place, raw -> raw.u4(at, number));
        }
    }

    private static void u2(int fault, int at, int... numbers) {
        for (int number : numbers) {
            fault(fault, at, raw -> raw.u2(at, number));
        }
    }

    private static void b(int fault, int at, int... numbers) {
        for (int number : numbers) {
            fault(fault, at, raw -> raw.bytes(at, number));
        }
    }

    // Promises 15 and 16

    private static void read() {
        CHECK.sentence("Promise 15", "Reads the FILE: 0, or the FAULT.", () -> {
            Samples.readIsAllThree(fresh().feed(Samples.fileOfAllThree()).read()).fileIs(Samples.fileOfAllThree());
            fresh().read(1, 0);
            fault(30, 36, raw -> raw.u4(36, 0));
        });
        CHECK.sentence("Terms", "Without a FAULT the READ image is what the FILE tells", () -> {
            none(raw -> raw.cut(Samples.SIZE + 5));
            none(raw -> raw.cut(Samples.SIZE + 9).bytes(Samples.SIZE, 1, 2, 3, 255));
            none(raw -> raw.bytes(205, 1, 2, 3));
            // The full one.
            Samples.fullFile(CHECK).read().told(3, 2048).hasSegment(0, 180, 4096, 0).hasSegment(1, 4276, 4096, 0)
                .hasSegment(2, 12004, 4096, 0);
            // What an earlier FILE told doesn't shine through.
            Hand hand = fresh().feed(Samples.fileOfAllThree()).read().cut(0).feed(Samples.fileOfTextAt(64)).read();
            hand.told(0, 64).told(3, 2).told(4, 1).hasSegment(0, 64, 6, 0).hasNot(1).hasNot(2);
            hand.byteIn(4096, NONE).byteIn(70, NONE).marked(80, 0).markBelow(131071, 68);
        });
        CHECK.sentence("Terms", "With one it stays.", ReadingTest::imageStays);
    }

    /** For each fault: an object that has read a good file reads one with this fault. */
    private static void imageStays() {
        int[][] spoils = {
            {0, 0, 2}, {4, 2, 3}, {5, 2, 4}, {6, 2, 5}, {15, 1, 6}, {16, 3, 7}, {18, 242, 8}, {20, 2, 9}, {29, 1, 10},
            {TEXT, 2, 11}, {NOTE + 4, 212, 12}, {NOTE + 28, 3, 13}, {DATA + 24, 7, 14}, {DATA + 10, 2, 15},
            {DATA + 12, 1, 16}, {DATA + 20, 1, 18}, {DATA + 4, 202, 19}, {TEXT, 0, 21}, {NOTE, 0, 24}, {AT, 7, 25},
            {AT + 31, 1, 26}, {AT + 28, 0x1f, 27}, {24, 5, 28}, {AT + 24, 0, 29}, {36, 0, 30}
        };
        for (int[] spoil : spoils) {
            RawFile raw = Samples.fileOfAllThree().bytes(spoil[0], spoil[1]);
            // Without its first rows the table's next ones tell what is wrong; the place is another test's.
            Hand hand = fresh().feed(Samples.fileOfAllThree()).read().spoil(spoil[0], spoil[1]);
            Samples.readIsAllThree(hand.readAny(spoil[2])).fileIs(raw);
        }
        Samples.readIsAllThree(fresh().feed(Samples.fileOfAllThree()).read().cut(51).read(1, 51)).size(51);
        Hand beyond = fresh().feed(Samples.fileOfAllThree()).read().spoilU4(CONST + 8, 131070).spoilU4(CONST + 12, 131070);
        Samples.readIsAllThree(beyond.read(22, CONST + 20));
        Hand common = fresh().feed(Samples.fileOfAllThree()).read().spoilU4(CONST + 8, 4115).spoilU4(CONST + 12, 4115);
        Samples.readIsAllThree(common.read(23, CONST + 8));
        Samples.longSegments(CHECK, 4096, 4096, 4096, true).spoilU4(CONST + 16, 4097).read(17, CONST + 16)
            .told(3, 2048).hasSegment(1, Samples.LONG_CONST, 4096, 0).byteIn(Samples.LONG_CONST, 0);
    }

    private static void place() {
        CHECK.sentence("Promise 16", "The PLACE of the latest read()'s FAULT", () -> {
            Hand hand = fresh().feed(Samples.fileOfAllThree()).spoil(AT, 7).read(25, AT).place(AT).spoil(36, 2).place(AT);
            hand.read(9, 36).cut(51).place(36).read(1, 51).cut(0).place(51).read(1, 0).feed(1, 0, true).place(0);
            // No other call changes it.
            hand.read(1, 1).clear().keep().segment(0, 0, 0).bytes(0, 0, 0).marks(0).write(152).place(1).told(0, 0).place(1);
        });
        CHECK.sentence("Promise 16", "NONE when it had none, or there was none", () -> {
            fresh().place(NONE).write(-1).place(NONE);
            Hand hand = fresh().feed(Samples.fileOfAllThree()).place(NONE).read(0, NONE).spoil(0, 0).place(NONE).read(2, 0);
            hand.spoil(0, 127).place(0).read(0, NONE).place(NONE);
        });
    }

    // The header

    private static void header() {
        CHECK.sentence("1", "1 n is below 52 (place n)", () -> {
            for (int n : new int[] {0, 1, 2, 8, 16, 28, 50, 51}) {
                fault(1, n, raw -> raw.cut(n));
            }
            fault(10, 28, raw -> raw.cut(52));
            // It comes ahead of what its bytes are.
            fault(1, 51, raw -> raw.cut(51).bytes(0, 0, 0, 0));
            fault(2, 0, raw -> raw.cut(52).bytes(0, 0, 0, 0));
        });
        CHECK.sentence("2", "2 one of the first four bytes is another one than in writing", () -> {
            b(2, 0, 126, 128, 0, 255);
            b(2, 1, 68, 70, 0, 255);
            b(2, 2, 75, 77, 0, 255);
            b(2, 3, 69, 71, 0, 255);
        });
        CHECK.sentence("3", "3 byte 4", () -> b(3, 4, 0, 2, 128, 255));
        CHECK.sentence("4", "4 byte 5", () -> b(4, 5, 0, 2, 128, 255));
        CHECK.sentence("5", "5 byte 6 isn't 1", () -> b(5, 6, 0, 2, 128, 255));
        CHECK.sentence("6", "6 one of the bytes 7 .. 15 isn't 0", () -> {
            for (int k = 7; k <= 15; k++) {
                b(6, k, 1, 128, 255);
            }
        });
        CHECK.sentence("7", "7 the U2 at 16 isn't 2", () -> u2(7, 16, 0, 1, 3, 0x0102, 0x0200, 0x8002, 0xffff));
        CHECK.sentence("8", "8 that at 18 isn't 243", () -> u2(8, 18, 0, 242, 244, 0x01f3, 0xf300, 0x80f3, 0xffff));
    }

    private static void headerNumbers() {
        CHECK.sentence("9", "of the numbers behind, in their order, one can't be: 1", () ->
            u4(9, 20, 0, 2, 0x0101, 0x01000001L, 0x80000001L, TOP));
        CHECK.sentence("9", "the ENTRY (any)", () -> {
            // Any is read; one without a MARK is a fault of the image.
            u4(28, 24, 0, 1, 4095, 0x7fffffffL, 0x80000000L, 0x80001004L, TOP);
            mended(raw -> raw.u4(24, 4112), 4112, 4096, 0, Samples.TEXT, 4116, 0, Samples.CONST, 8192, 5, Samples.DATA,
                Samples.MARKS).told(0, 4112);
        });
        CHECK.sentence("9", "where the TABLE begins (a multiple of 4, 52 and more)", () -> {
            u4(9, 28, 0, 4, 44, 48, 49, 50, 51, 53, 54, 55, 57, 0x80000001L, 0xfffffffeL, TOP);
            u4At(11, 56, 28, 56);
            none(raw -> raw.u4(28, 52));
        });
        CHECK.sentence("9", "0; the flags (0, 1)", () -> {
            u4(9, 32, 1, 2, 256, 0x01000000L, 0x80000000L, TOP);
            u4(9, 36, 2, 3, 256, 0x0101, 0x01000001L, 0x80000000L, 0x80000001L, TOP);
            u4(30, 36, 0);
            none(raw -> raw.u4(36, 1));
        });
        CHECK.sentence("9", "52; 32", () -> {
            u2(9, 40, 0, 51, 53, 0x0134, 0x3400, 0x8034, 0xffff);
            u2(9, 42, 0, 31, 33, 0x0120, 0x2000, 0x8020, 0xffff);
        });
        CHECK.sentence("9", "how many the TABLE has (1 .. 8)", () -> {
            u2(9, 44, 0, 9, 10, 0x0100, 0x0104, 0x0400, 0x8001, 0xffff);
            // One: TEXT alone is told. Eight: some of them count for nothing.
            fault(24, 44, raw -> raw.u2(44, 1));
            none(eightRows());
        });
        CHECK.sentence("9", "0; 0; 0", () -> {
            u2(9, 46, 1, 128, 0x0100, 0x8000, 0xffff);
            u2(9, 48, 1, 128, 0x0100, 0x8000, 0xffff);
            u2(9, 50, 1, 128, 0x0100, 0x8000, 0xffff);
        });
    }

    /** The sample image in another file: NOTE, TEXT, DATA, CONST, then a TABLE of eight, up to n; half of them are 0. */
    private static RawFile eightRows() {
        RawFile raw = RawFile.ofSize(112 + 256).head(4100, 112, 1, 8);
        raw.row(112, 4, 52, 0, 0, 32, 0, 4, 1);
        raw.row(112 + 32, 1, 104, 8192, 8192, 2, 7, 6, 1);
        raw.row(112 + 64, 0, 1, 1, 2, 3, 4, 5, 6);
        raw.row(112 + 96, 1, 84, 4096, 4096, 20, 20, 5, 4);
        raw.row(112 + 160, 0, TOP, TOP, TOP, TOP, TOP, TOP, TOP);
        raw.row(112 + 224, 1, 106, 4116, 4116, 3, 3, 4, 2);
        raw.note(52, 32, 10, Samples.sumOfAllThree(), Samples.MARKS);
        return raw.bytes(84, Samples.TEXT).bytes(104, Samples.DATA).bytes(106, Samples.CONST);
    }

    /** eightRows() with CONST at any place, and room behind the TABLE. */
    private static RawFile byBytes() {
        return eightRows().cut(368 + 4).u4(112 + 224 + 28, 1);
    }

    // The table

    private static void tableBounds() {
        CHECK.sentence("10", "10 the TABLE goes beyond n (place 28)", () -> {
            none(eightRows());
            fault(10, 28, eightRows().cut(112 + 255));
            fault(10, 28, eightRows().u4(28, 116));
            fault(10, 28, raw -> raw.cut(179));
            fault(12, TEXT + 4, raw -> raw.cut(180));
            fault(10, 28, raw -> raw.u2(44, 6));
            fault(19, TEXT + 4, raw -> raw.u2(44, 5));
            fault(10, 28, raw -> raw.u2(44, 8));
            u4(10, 28, Samples.SIZE - 128 + 4, Samples.SIZE, 0x7ffffffcL, 0x80000000L, 0xffffff80L, 0xfffffffcL);
            // All of the FILE is a TABLE of rows of 0 alone.
            fault(21, 44, RawFile.ofSize(52 + 256).head(0, 52, 0, 8));
        });
        CHECK.sentence("10", "NUMBERS of a file have 2 or 4 bytes (U2, U4), the lowest first, without sign", () -> {
            // With a sign these would be small, or below 0.
            u4(10, 28, 0x80000034L, 0xfffffff4L);
            u4(12, TEXT + 4, 0x800000b4L, 0xffffffecL);
            u4(15, TEXT + 8, 0x80001000L, 0xfffff000L);
            u4(18, DATA + 20, 0x80000007L, TOP);
            u4At(12, TEXT + 4, TEXT + 16, 0x80000014L, TOP);
        });
    }

    private static void kinds() {
        CHECK.sentence("11", "11 the first isn't 1 (a segment), 4 (a NOTE) or 0", () -> {
            for (int row : ROWS) {
                u4(11, row, 2, 3, 5, 0x0101, 0x0104, 0x0100, 0x80000000L, 0x80000001L, 0x80000004L, TOP);
            }
            fault(13, DATA + 28, raw -> raw.u4(DATA, 4));
            fault(14, NOTE + 24, raw -> raw.u4(NOTE, 1));
        });
        CHECK.sentence("11", "0 (all else of it counts for nothing, and it isn't looked at further)", () -> {
            mended(raw -> raw.row(CONST, 0, TOP, TOP, 7, TOP, 9, TOP, TOP), 4100, 4096, 0, Samples.TEXT, 8192, 5,
                Samples.DATA, Samples.MARKS).hasNot(1);
            mended(raw -> raw.row(CONST, 0, 180, 4096, 4096, 20, 20, 5, 1), 4100, 4096, 0, Samples.TEXT, 8192, 5,
                Samples.DATA, Samples.MARKS).hasNot(1);
            fault(21, 44, raw -> raw.u4(TEXT, 0));
            fault(24, 44, raw -> raw.u4(NOTE, 0));
        });
    }

    private static void places() {
        CHECK.sentence("12", "12 where it begins and how many bytes it has are together beyond n", () -> {
            // Up to n, and one further.
            fault(19, NOTE + 4, raw -> raw.u4(TEXT + 4, Samples.SIZE - 20));
            u4(12, TEXT + 4, Samples.SIZE - 19, Samples.SIZE, 0x7fffffffL, TOP);
            u4(12, CONST + 4, Samples.SIZE - 2);
            u4(12, DATA + 4, Samples.SIZE - 1);
            u4(12, NOTE + 4, Samples.SIZE - 31, Samples.SIZE - 28, 0xfffffffcL);
            fault(12, NOTE + 4, raw -> raw.cut(Samples.SIZE - 1));
            none(raw -> raw.cut(Samples.SIZE + 1));
            u4At(12, TEXT + 4, TEXT + 16, 61, 4096, 0x7fffffffL, TOP);
            fault(18, TEXT + 20, raw -> raw.u4(TEXT + 16, 60));
            u4At(12, NOTE + 4, NOTE + 16, 33, TOP);
            // Together 2 to the 32 and a bit more.
            fault(12, TEXT + 4, raw -> raw.u4(TEXT + 4, 0xfffffff0L).u4(TEXT + 16, 16));
            fault(12, TEXT + 4, raw -> raw.u4(TEXT + 4, 0xfffffff0L).u4(TEXT + 16, 100));
            fault(12, TEXT + 4, raw -> raw.u4(TEXT + 4, 180).u4(TEXT + 16, 0xffffff60L));
            fault(12, NOTE + 4, raw -> raw.u4(NOTE + 4, TOP).u4(NOTE + 16, TOP));
        });
        CHECK.sentence("12", "or it has some and begins below 52 (place of where it begins)", () -> {
            u4(12, TEXT + 4, 0, 1, 50, 51);
            u4At(19, TEXT + 4, TEXT + 4, 52);
            u4(12, NOTE + 4, 0, 48);
            u4(12, CONST + 4, 0, 51);
            // From 52 on there are others' bytes than the header's: eightRows() has its NOTE there.
            none(eightRows());
            fault(12, 112 + 4, eightRows().u4(112 + 4, 48));
            fault(12, 112 + 32 + 4, eightRows().u4(112 + 32 + 4, 51));
        });
        CHECK.sentence("12", "it has some", () -> {
            // With none it may begin anywhere up to n.
            for (long begin : new long[] {0, 1, 51, 52, 179, 180, 210, Samples.SIZE}) {
                mended(raw -> raw.u4(CONST + 4, begin).u4(CONST + 16, 0).u4(CONST + 20, 0), 4100, 4096, 0, Samples.TEXT,
                    4116, 0, 8192, 5, Samples.DATA, Samples.MARKS).hasSegment(1, 4116, 0, 0);
            }
            for (long begin : new long[] {Samples.SIZE + 1, 0x80000000L, TOP}) {
                fault(12, CONST + 4, raw -> raw.u4(CONST + 4, begin).u4(CONST + 16, 0).u4(CONST + 20, 0));
            }
            fault(12, CONST + 4, raw -> raw.u4(CONST + 4, 51).u4(CONST + 16, 1).u4(CONST + 20, 1));
        });
    }

    private static void pages() {
        CHECK.sentence("13", "13 the last is no power of two 1 .. 4096", () -> {
            for (int row : ROWS) {
                u4(13, row + 28, 0, 3, 5, 6, 7, 9, 12, 4095, 4097, 6144, 8191, 8192, 65536, 0x80000000L, 0x80000001L, TOP);
            }
            for (int power = 0; power <= 12; power++) {
                long page = 1L << power;
                none(raw -> raw.u4(NOTE + 28, page));
            }
            Samples.fullFile(CHECK).read().told(1, 4096).spoilU4(TEXT + 28, 8192).read(13, TEXT + 28)
                .spoilU4(TEXT + 28, 2048).read().told(1, 4096).spoilU4(CONST + 28, 1).spoilU4(DATA + 28, 1024).read()
                .told(1, 2048);
        });
        CHECK.sentence("13", "or, of a NOTE, where it begins is no multiple of 4", () -> {
            u4At(13, NOTE + 28, NOTE + 4, 205, 206, 207);
            u4At(19, NOTE + 4, NOTE + 4, 204);
            // Whatever its last number is; and one without bytes, too.
            fault(13, NOTE + 28, raw -> raw.u4(NOTE + 4, 206).u4(NOTE + 28, 1));
            fault(13, NOTE + 28, raw -> raw.u4(NOTE + 4, 206).u4(NOTE + 28, 2).u4(NOTE + 16, 0));
            none(raw -> raw.u4(NOTE + 28, 4096));
        });
        CHECK.sentence("13", "where it begins and its third number haven't the same rest by the last one (place of the last)",
            () -> {
                // TEXT has 180 and 4096, CONST 200 and 4116, DATA 203 and 8192.
                for (long page : new long[] {1, 2, 4}) {
                    fresh().feed(Samples.fileOfAllThree().u4(TEXT + 28, page)).read().told(1, page);
                    fresh().feed(Samples.fileOfAllThree().u4(CONST + 28, page)).read().told(1, page);
                }
                u4(13, TEXT + 28, 8, 16, 32, 64, 128, 256, 512, 1024, 2048, 4096);
                u4(13, CONST + 28, 8, 16, 4096);
                u4(13, DATA + 28, 2, 4, 4096);
                // Rests of numbers with a high bit; and one without bytes has rests, too.
                fault(13, TEXT + 28, raw -> raw.u4(TEXT + 8, 0x80000001L).u4(TEXT + 28, 2));
                fault(15, TEXT + 8, raw -> raw.u4(TEXT + 8, 0x80000004L).u4(TEXT + 28, 8));
                fault(15, TEXT + 8, raw -> raw.u4(TEXT + 8, 0xfffff0b4L).u4(TEXT + 28, 4096));
                fault(13, CONST + 28, raw -> raw.u4(CONST + 4, 201).u4(CONST + 16, 0).u4(CONST + 20, 0).u4(CONST + 28, 2));
            });
    }

    private static void rightsOfRows() {
        CHECK.sentence("14", "14 the seventh: of a segment not 4, 5 or 6, of a NOTE not 4", () -> {
            u4(14, TEXT + 24, 0, 1, 2, 3, 7, 8, 0x0105, 0x80000005L, TOP);
            u4(14, CONST + 24, 0, 3, 7, 0x0104, 0x80000004L);
            u4(14, DATA + 24, 0, 3, 7, 0x0106, 0x80000006L);
            u4(14, NOTE + 24, 0, 3, 5, 6, 0x0104, 0x80000004L, TOP);
        });
        CHECK.sentence("14", "or there was a segment with the same, or a NOTE, ahead", () -> {
            fault(14, CONST + 24, raw -> raw.u4(CONST + 24, 5));
            fault(14, DATA + 24, raw -> raw.u4(DATA + 24, 5));
            fault(14, DATA + 24, raw -> raw.u4(DATA + 24, 4));
            fault(14, CONST + 24, raw -> raw.u4(TEXT + 24, 4));
            fault(14, NOTE + 24, raw -> raw.row(DATA, 4, AT, 0, 0, 0, 0, 4, 4));
            fault(14, 112 + 64 + 24, eightRows().row(112 + 64, 1, 0, 0, 0, 0, 0, 6, 1));
            fault(14, 112 + 64 + 24, eightRows().row(112 + 64, 4, 0, 0, 0, 0, 0, 4, 1));
            fault(14, 112 + 224 + 24, eightRows().row(112 + 192, 1, 0, 0, 0, 0, 0, 4, 1));
            // Segments behind the NOTE have none of their kind ahead; and the NOTE's 4 isn't CONST's.
            none(eightRows());
        });
    }

    private static void addresses() {
        CHECK.sentence("15", "15 the third: of a segment above 131,071, of a NOTE not 0", () -> {
            u4(15, TEXT + 8, 131072, 131073, 0x80000000L, TOP);
            u4(15, CONST + 8, 131072, 0x80001014L);
            u4(15, DATA + 8, 131072, 196608, TOP);
            u4(15, NOTE + 8, 1, 4, 4096, 131071, 0x80000000L, TOP);
            u4At(16, DATA + 12, DATA + 8, 131071, 0);
            mended(raw -> raw.u4(CONST + 8, 131069).u4(CONST + 12, 131069), 4100, 4096, 0, Samples.TEXT, 131069, 0,
                Samples.CONST, 8192, 5, Samples.DATA, Samples.MARKS).hasSegment(1, 131069, 3, 0);
            mended(raw -> raw.row(DATA, 1, 203, 131071, 131071, 0, 1, 6, 1), 4100, 4096, 0, Samples.TEXT, 4116, 0,
                Samples.CONST, 131071, 1, Samples.MARKS).hasSegment(2, 131071, 0, 1);
            mended(raw -> raw.u4(DATA + 8, 0).u4(DATA + 12, 0), 4100, 4096, 0, Samples.TEXT, 4116, 0, Samples.CONST,
                0, 5, Samples.DATA, Samples.MARKS).hasSegment(2, 0, 2, 5);
        });
        CHECK.sentence("16", "16 the fourth isn't the third", () -> {
            u4(16, TEXT + 12, 0, 4095, 4097, 0x80001000L, TOP);
            u4(16, CONST + 12, 4115, 4117);
            u4(16, DATA + 12, 8191, 8193, 131072);
            u4(16, NOTE + 12, 1, 4, AT, TOP);
        });
    }

    private static void lengths() {
        CHECK.sentence("17", "17 the fifth, of a segment, is above 4096", () -> {
            for (int row : new int[] {TEXT, CONST, DATA}) {
                Hand hand = Samples.longSegments(CHECK, 4096, 4096, 4096, true).read();
                for (int length : new int[] {4097, 4098, 4100, 4360}) {
                    hand.spoilU4(row + 16, length).read(17, row + 16).spoilU4(row + 20, length).read(17, row + 16);
                }
                hand.spoilU4(row + 16, 4096).spoilU4(row + 20, 4096).read();
            }
            Samples.longSegments(CHECK, 4096, 4096, 4096, true).spoilU4(TEXT + 16, 8192).read(17, TEXT + 16)
                .spoilU4(TEXT + 16, 12752 - 180).read(17, TEXT + 16).spoilU4(TEXT + 16, 12752 - 179).read(12, TEXT + 4);
            Samples.longSegments(CHECK, 2, 4095, 4095, true).hasSegment(1, Samples.LONG_CONST, 4095, 0)
                .hasSegment(2, Samples.LONG_DATA, 4095, 0);
        });
        CHECK.sentence("17", "the fifth, of a segment", () ->
            // A NOTE may have more; it is another one than in writing then.
            Samples.longSegments(CHECK, 2, 0, 0, true).spoilU4(NOTE + 4, 4276).spoilU4(NOTE + 16, 4096).read(25, 4276)
                .spoilU4(NOTE + 16, 4100).read(25, 4276).spoil(4276, 6).read(25, 4280).spoilU4(4280, 4080).read(25, 4284));
        CHECK.sentence("18", "of a segment less than the fifth, or more by more than 32,768", () -> {
            u4(18, DATA + 20, 0, 1, 2 + 32769, 65536, 0x80000002L, TOP);
            for (int more : new int[] {0, 1, 5, 32767, 32768}) {
                mended(raw -> raw.u4(DATA + 20, 2 + more), 4100, 4096, 0, Samples.TEXT, 4116, 0, Samples.CONST, 8192, more,
                    Samples.DATA, Samples.MARKS).hasSegment(2, 8192, 2, more);
            }
            fault(18, DATA + 20, raw -> raw.u4(DATA + 16, 0).u4(DATA + 20, 32769));
            Samples.longSegments(CHECK, 2, 0, 4096, true).spoilU4(DATA + 20, 4095).read(18, DATA + 20)
                .spoilU4(DATA + 20, 4096 + 32769).read(18, DATA + 20).spoilU4(DATA + 20, 4096 + 32768)
                .read(29, Samples.LONG_NOTE + 24);
        });
        CHECK.sentence("18", "or, if the seventh is 4 or 5, another one; of a NOTE not 0", () -> {
            u4(18, TEXT + 20, 0, 19, 21, 20 + 32768, 0x80000014L, TOP);
            u4(18, CONST + 20, 0, 2, 4, 3 + 32768, TOP);
            u4(18, NOTE + 20, 1, 32, 0x80000000L, TOP);
            fault(18, CONST + 20, raw -> raw.u4(CONST + 16, 0).u4(CONST + 20, 1));
        });
    }

    private static void sharedBytes() {
        CHECK.sentence("19", "19 it has bytes some of which are the TABLE's", () -> {
            // The TABLE is at 52 .. 179 here, and at 112 .. 367 in the other file.
            u4(19, TEXT + 4, 52, 100, 160, 178, 179);
            u4(19, CONST + 4, 177, 178, 179);
            fault(19, TEXT + 4, raw -> raw.u4(TEXT + 4, 52).u4(TEXT + 16, 128).u4(TEXT + 20, 128));
            fault(19, TEXT + 4, raw -> raw.u4(TEXT + 4, 52).u4(TEXT + 16, 140).u4(TEXT + 20, 140));
            int begin = 112 + 224 + 4;
            for (int apart : new int[] {108, 109, 368, 369}) {
                none(byBytes().u4(begin, apart).bytes(apart, Samples.CONST));
            }
            for (int within : new int[] {110, 111, 112, 200, 364, 365, 366, 367}) {
                fault(19, begin, byBytes().u4(begin, within));
            }
        });
        CHECK.sentence("19", "or those of one ahead in the TABLE that isn't 0 (place of where it begins)", () -> {
            // TEXT has 180 .. 199, CONST 200 .. 202, DATA 203 and 204; the NOTE 208 .. 239.
            u4(19, CONST + 4, 180, 185, 197, 198, 199);
            u4(19, DATA + 4, 180, 198, 199, 200, 201, 202);
            u4(19, NOTE + 4, 180, 200, 204);
            fault(19, CONST + 4, raw -> raw.u4(CONST + 4, 180).u4(CONST + 16, 30).u4(CONST + 20, 30));
            fault(29, AT + 24, raw -> raw.u4(CONST + 4, 205));
            fault(19, NOTE + 4, raw -> raw.u4(CONST + 4, 206));
            fault(29, AT + 24, raw -> raw.u4(DATA + 4, 206));
            fault(19, NOTE + 4, raw -> raw.u4(DATA + 4, 207));
            // By the order in the TABLE, not by that of the segments; the NOTE counts as any.
            fault(19, DATA + 4, raw -> raw.row(CONST, 1, 201, 8192, 8192, 2, 7, 6, 1)
                .row(DATA, 1, 200, 4116, 4116, 3, 3, 4, 1));
            fault(19, 112 + 32 + 4, eightRows().u4(112 + 32 + 4, 83));
            fault(19, 112 + 96 + 4, eightRows().u4(112 + 96 + 4, 88));
            fault(19, 112 + 228, eightRows().u4(112 + 228, 104));
        });
        CHECK.sentence("19", "it has bytes", () -> {
            // With none it shares none; nor does one of them share any with one ahead that has none.
            mended(raw -> raw.u4(CONST + 4, 190).u4(CONST + 16, 0).u4(CONST + 20, 0), 4100, 4096, 0, Samples.TEXT,
                4116, 0, 8192, 5, Samples.DATA, Samples.MARKS);
            mended(raw -> raw.row(DATA, 1, 215, 8192, 8192, 0, 5, 6, 1), 4100, 4096, 0, Samples.TEXT,
                4116, 0, Samples.CONST, 8192, 5, Samples.MARKS);
            fault(29, AT + 24, raw -> raw.row(CONST, 0, 180, 0, 0, 20, 20, 0, 0));
        });
    }

    // The image

    private static void memory() {
        CHECK.sentence("21", "what GOOD says as 1, 2, 3 isn't so (place: 44 for 21", () -> {
            fault(21, 44, raw -> raw.u4(TEXT, 0));
            fault(21, 44, raw -> raw.u4(TEXT + 16, 0).u4(TEXT + 20, 0));
            fault(21, 44, raw -> raw.u4(TEXT + 16, 1).u4(TEXT + 20, 1));
            fault(21, 44, raw -> raw.u4(TEXT + 16, 19).u4(TEXT + 20, 19));
            fault(25, AT + 20, raw -> raw.u4(TEXT + 16, 2).u4(TEXT + 20, 2));
            Samples.longSegments(CHECK, 4096, 0, 0, true).spoilU4(TEXT + 16, 4095).spoilU4(TEXT + 20, 4095).read(21, 44);
        });
        CHECK.sentence("22", "for 22 the sixth number of that segment in the TABLE", () -> {
            fault(22, TEXT + 20, raw -> raw.u4(TEXT + 8, 131053).u4(TEXT + 12, 131053));
            fault(28, 24, raw -> raw.u4(TEXT + 8, 131052).u4(TEXT + 12, 131052));
            fault(22, CONST + 20, raw -> raw.u4(CONST + 8, 131070).u4(CONST + 12, 131070));
            fault(29, AT + 24, raw -> raw.u4(CONST + 8, 131069).u4(CONST + 12, 131069));
            fault(22, DATA + 20, raw -> raw.u4(DATA + 8, 131066).u4(DATA + 12, 131066));
            fault(29, AT + 24, raw -> raw.u4(DATA + 8, 131065).u4(DATA + 12, 131065));
            fault(22, DATA + 20, raw -> raw.row(DATA, 1, 203, 98304, 98304, 0, 32768, 6, 1).u4(DATA + 8, 98305)
                .u4(DATA + 12, 98305));
            fault(29, AT + 24, raw -> raw.row(DATA, 1, 203, 98304, 98304, 0, 32768, 6, 1));
        });
        CHECK.sentence("22", "2 and 3 by segments from 0 on", () -> {
            // Not by the TABLE's order.
            fault(22, TEXT + 20, raw -> raw.u4(DATA + 8, 131071).u4(DATA + 12, 131071).u4(TEXT + 8, 131071)
                .u4(TEXT + 12, 131071));
            fault(22, 112 + 96 + 20, eightRows().u4(112 + 32 + 8, 131071).u4(112 + 32 + 12, 131071)
                .u4(112 + 96 + 8, 131068).u4(112 + 96 + 12, 131068));
            fault(22, 112 + 224 + 20, eightRows().u4(112 + 32 + 8, 131071).u4(112 + 32 + 12, 131071)
                .u4(112 + 224 + 8, 131070).u4(112 + 224 + 12, 131070));
        });
        CHECK.sentence("23", "of the first pair of 0 and 1, 0 and 2, 1 and 2 that meets", () -> {
            // TEXT has the addresses 4096 .. 4115, CONST three, DATA seven.
            fault(23, CONST + 8, raw -> raw.u4(CONST + 8, 4115).u4(CONST + 12, 4115));
            fault(23, CONST + 8, raw -> raw.u4(CONST + 8, 4094).u4(CONST + 12, 4094));
            fault(29, AT + 24, raw -> raw.u4(CONST + 8, 4093).u4(CONST + 12, 4093));
            fault(23, DATA + 8, raw -> raw.u4(DATA + 8, 4090).u4(DATA + 12, 4090));
            fault(29, AT + 24, raw -> raw.u4(DATA + 8, 4089).u4(DATA + 12, 4089));
            fault(23, DATA + 8, raw -> raw.u4(DATA + 8, 4118).u4(DATA + 12, 4118));
            fault(29, AT + 24, raw -> raw.u4(DATA + 8, 4119).u4(DATA + 12, 4119));
            fault(23, DATA + 8, raw -> raw.u4(DATA + 8, 4114).u4(DATA + 12, 4114));
        });
        CHECK.sentence("23", "the third number of the one of both that stands behind in the TABLE", () -> {
            fault(23, CONST + 8, raw -> raw.row(TEXT, 1, 200, 4115, 4115, 3, 3, 4, 1)
                .row(CONST, 1, 180, 4096, 4096, 20, 20, 5, 1));
            // 1 and 2 meet ahead in the TABLE, and 0 and 2; but 0 and 1 come first.
            fault(23, DATA + 8, raw -> raw.row(TEXT, 1, 203, 4090, 4090, 2, 1002, 6, 1)
                .row(CONST, 1, 200, 4115, 4115, 3, 3, 4, 1).row(DATA, 1, 180, 4096, 4096, 20, 20, 5, 1));
            // 0 and 2, of which 0 stands behind; 1 and 2, of which 1 does.
            fault(23, 112 + 96 + 8, eightRows().u4(112 + 32 + 8, 4090).u4(112 + 32 + 12, 4090));
            fault(23, 112 + 224 + 8, eightRows().u4(112 + 32 + 8, 4118).u4(112 + 32 + 12, 4118));
        });
    }

    // The note

    private static void note() {
        CHECK.sentence("24", "Then 24 there is no NOTE (place 44)", () -> {
            fault(24, 44, raw -> raw.u4(NOTE, 0));
            fault(24, 44, raw -> raw.u2(44, 3));
            fault(24, 44, raw -> raw.u2(44, 1));
        });
        CHECK.sentence("25", "25 it has less than 28 bytes (its fifth number)", () -> {
            u4(25, NOTE + 16, 0, 1, 8, 20, 24, 27);
            u4At(25, AT + 4, NOTE + 16, 28, 29, 31);
            // It comes ahead of its numbers.
            fault(25, NOTE + 16, raw -> raw.u4(NOTE + 16, 27).u4(AT, 0));
            fault(25, AT, raw -> raw.u4(NOTE + 16, 28).u4(AT, 0));
        });
        CHECK.sentence("25", "or of its numbers and the name's bytes one is not as in writing", () -> {
            u4(25, AT, 0, 5, 7, 0x0106, 0x80000006L, TOP);
            u4(25, AT + 8, 0, 2, 0x0101, 0x80000001L, TOP);
            int[] name = {77, 97, 114, 107, 115, 0, 0, 0};
            for (int i = 0; i < 8; i++) {
                b(25, AT + 12 + i, name[i] + 1, name[i] - 1 & 255, 128, 255);
            }
        });
        CHECK.sentence("25", "(what is behind the name: how many bytes the NOTE has, less 20), in their order", () -> {
            u4(25, AT + 4, 0, 11, 13, 16, 32, 0x010c, 0x8000000cL, TOP);
            fault(25, AT, raw -> raw.u4(AT, 7).u4(AT + 4, 7).u4(AT + 8, 7).bytes(AT + 12, 7).u4(AT + 20, 7));
            fault(25, AT + 4, raw -> raw.u4(AT + 4, 7).u4(AT + 8, 7).bytes(AT + 12, 7).u4(AT + 20, 7));
            fault(25, AT + 8, raw -> raw.u4(AT + 8, 7).bytes(AT + 12, 7).u4(AT + 20, 7));
            fault(25, AT + 12, raw -> raw.bytes(AT + 12, 7, 7).u4(AT + 20, 7));
            fault(25, AT + 19, raw -> raw.bytes(AT + 19, 7).u4(AT + 20, 7));
        });
        CHECK.sentence("25", "or half of TEXT's bytes", () -> {
            u4(25, AT + 20, 0, 9, 11, 20, 0x010a, 0x8000000aL, TOP);
            // It comes ahead of how many bytes the NOTE has.
            fault(25, AT + 20, raw -> raw.u4(NOTE + 16, 28).u4(AT + 4, 8).u4(AT + 20, 8));
        });
        CHECK.sentence("25", "(that is: how many bytes the NOTE has) isn't as in writing (the number at 20 in it; its fifth number)",
            () -> {
                for (int length : new int[] {28, 29, 31, 33, 35, 36, 40}) {
                    fault(25, NOTE + 16, raw -> raw.cut(Samples.SIZE + 20).u4(NOTE + 16, length).u4(AT + 4, length - 20));
                }
                // Up to 64 bytes of TEXT have four MARK BYTES with 0s, one more has eight.
                for (int text : new int[] {2, 16, 18, 62, 64, 66, 126, 128, 130}) {
                    int tail = (text + 63) / 64 * 4;
                    int at = (116 + text + 3) / 4 * 4;
                    Hand hand = fresh().segment(0, 0, 0).bytes(0, new int[text]).marks(0).write(at + 28 + tail).read();
                    hand.feed(4, 0, true).read().spoilU4(84 + 16, 32 + tail).spoilU4(at + 4, 12 + tail).read(25, 84 + 16);
                    hand.spoilU4(84 + 16, 24 + tail).spoilU4(at + 4, 4 + tail).read(25, 84 + 16);
                    hand.spoilU4(84 + 16, 28 + tail).spoilU4(at + 4, 8 + tail).read();
                }
                Samples.fullFile(CHECK).spoilU4(NOTE + 16, 280).spoilU4(16104, 260).read(25, NOTE + 16);
            });
    }

    private static void marks() {
        CHECK.sentence("26", "26 a bit behind the last MARK BYTE's that has an offset in TEXT", () -> {
            // 20 bytes of TEXT: the second MARK BYTE has two bits with an offset in it.
            b(26, AT + 29, 0b101, 0b1001, 0b10000001, 0b11111101, 255);
            b(27, AT + 29, 0b11);
            for (int text = 2; text <= 34; text += 2) {
                int at = (116 + text + 3) / 4 * 4;
                int last = at + 28 + (text - 1) / 16;
                int bits = (text / 2 - 1) % 8 + 1;
                Hand hand = fresh().segment(0, 0, 0).bytes(0, new int[text]).marks(0).write(at + 32).read();
                int was = text <= 16 ? 1 : 0;
                // Its last bit is a MARK, the one behind it is none.
                hand.spoil(last, 1 << bits - 1, was).read(text == 2 ? 0 : text <= 16 ? 28 : 29,
                    text == 2 ? NONE : text <= 16 ? 24 : at + 24);
                for (int bit = bits; bit < 8; bit++) {
                    hand.spoil(last, was | 1 << bit).read(26, last);
                }
            }
            Samples.longSegments(CHECK, 4094, 0, 0, true).spoil(Samples.LONG_NOTE + 28 + 255, 255, 127)
                .read(26, Samples.LONG_NOTE + 28 + 255);
        });
        CHECK.sentence("26", "or a byte behind the MARK BYTES, isn't 0 (the byte)", () -> {
            b(26, AT + 30, 1, 128, 255);
            b(26, AT + 31, 1, 128, 255);
            fault(26, AT + 30, raw -> raw.bytes(AT + 30, 1, 1));
            fault(26, AT + 29, raw -> raw.bytes(AT + 29, 128, 1, 1));
            // The byte behind the NOTE is no matter; and with four MARK BYTES none is behind them.
            none(raw -> raw.cut(Samples.SIZE + 1).bytes(Samples.SIZE, 1));
            fresh().segment(0, 0, 0).bytes(0, new int[64]).marks(0).write(180 + 32).spoil(180 + 31, 128, 0).read(29, 180 + 24);
            fresh().segment(0, 0, 0).bytes(0, new int[16]).marks(0).write(132 + 32).spoil(132 + 29, 1, 0).read(26, 161);
            fresh().segment(0, 0, 0).bytes(0, new int[66]).marks(0).write(184 + 36).spoil(184 + 33, 1, 0).read(26, 217);
        });
        CHECK.sentence("27", "4 by MARKS rising", () -> {
            fault(27, AT + 28, raw -> raw.bytes(AT + 28, 0b00111101, 0b11));
            fault(27, AT + 29, raw -> raw.bytes(AT + 28, 0b00011101, 0b11));
        });
        CHECK.sentence("27", "27 what GOOD says as 4 isn't so (place: the MARK BYTE of that MARK)", () -> {
            // A MARK in an instruction.
            b(27, AT + 28, 0b00011111, 0b00111101);
            b(27, AT + 29, 0b11);
            // The last two bytes of TEXT: one of two is in it, one of four isn't.
            fault(29, AT + 24, raw -> raw.bytes(AT + 29, 0b10));
            fault(27, AT + 29, raw -> raw.bytes(AT + 29, 0b10).bytes(Samples.AT_TEXT + 18, 0x0b));
            // Over the edge of a MARK BYTE: that of the first one is told.
            fault(27, AT + 28, raw -> raw.bytes(AT + 28, 0b10011101).bytes(Samples.AT_TEXT + 14, 3));
            fault(29, AT + 24, raw -> raw.bytes(AT + 28, 0b10011101).bytes(Samples.AT_TEXT + 14, 2));
            // The full one: its last MARK, and others.
            int at = Samples.LONG_NOTE + 28;
            Samples.longSegments(CHECK, 4096, 0, 0, true).spoil(180 + 4094, 3).read(27, at + 255).spoil(180 + 4092, 7)
                .read(27, at + 255).spoil(180 + 4078, 3).read(27, at + 254).spoil(180 + 16, 255).read(27, at + 1)
                .spoil(180 + 14, 3).read(27, at).spoil(180 + 14, 2).spoil(180 + 16, 254).spoil(180 + 4078, 1)
                .spoil(180 + 4092, 0).spoil(180 + 4094, 2).read(29, Samples.LONG_NOTE + 24);
        });
    }

    private static void entrySumFlags() {
        CHECK.sentence("28", "28 as 5 (place 24)", () -> {
            u4(28, 24, 0, 4, 4094, 4095, 4097, 4098, 4108, 4114, 4116, 8192, 0x80001000L, TOP);
            u4At(29, AT + 24, 24, 4096, 4102, 4104, 4112);
            // No MARK at all.
            fault(28, 24, raw -> raw.bytes(AT + 28, 0, 0));
        });
        CHECK.sentence("29", "29 THE SUM is another one (the number at 24 in the NOTE)", () -> {
            for (int k = 0; k < 4; k++) {
                int at = AT + 24 + k;
                fault(29, AT + 24, raw -> raw.bytes(at, raw.bytes[at] ^ 0x80));
                fault(29, AT + 24, raw -> raw.bytes(at, raw.bytes[at] ^ 1));
            }
            u4(29, AT + 24, 0, TOP);
            fault(29, AT + 24, raw -> raw.bytes(Samples.AT_TEXT + 19, 12));
            fault(29, AT + 24, raw -> raw.bytes(Samples.AT_CONST, 12));
            fault(29, AT + 24, raw -> raw.bytes(Samples.AT_DATA + 1, 12));
            fault(29, AT + 24, raw -> raw.u4(DATA + 20, 8));
            fault(29, AT + 24, raw -> raw.bytes(AT + 28, 0b00001101));
        });
        CHECK.sentence("30", "30 the flags are 0 and a MARK is SHORT, or 1 and none is (36)", () -> {
            u4(30, 36, 0);
            int[] marks = {0b00010001, 1};
            mended(raw -> raw.bytes(AT + 28, marks).u4(24, 4096).u4(36, 0), 4096, 4096, 0, Samples.TEXT, 4116, 0,
                Samples.CONST, 8192, 5, Samples.DATA, marks).told(3, 3).told(4, 0).spoil(36, 1, 0).read(30, 36)
                .spoil(36, 0, 1).read();
            Samples.fullFile(CHECK).spoil(36, 0, 1).read(30, 36);
        });
    }

    // All of them together

    private static void order() {
        CHECK.sentence("Terms", "looks at all that follows in this order; the first FAULT ends it", () -> {
            // One fault upon another, from the last looked for to the first: each comes ahead of all before it.
            steps(new int[][] {
                {36, 0, 30, 36}, {AT + 24, 1, 29, AT + 24}, {24, 5, 28, 24}, {AT + 28, 0x1f, 27, AT + 28},
                {AT + 31, 9, 26, AT + 31}, {AT + 20, 9, 25, AT + 20}, {AT + 12, 0, 25, AT + 12}, {AT, 0, 25, AT},
                {NOTE, 0, 24, 44}
            });
            steps(new int[][] {
                {24, 5, 28, 24}, {AT, 5, 25, AT},
                {CONST + 8, 0x13, 16, CONST + 12}, {CONST + 12, 0x13, 23, CONST + 8},
                {DATA + 10, 1, 16, DATA + 12}, {DATA + 14, 1, 23, CONST + 8},
                {DATA + 9, 0xff, 16, DATA + 12}, {DATA + 13, 0xff, 23, CONST + 8},
                {DATA + 8, 0xfa, 16, DATA + 12}, {DATA + 12, 0xfa, 22, DATA + 20},
                {TEXT + 16, 19, 18, TEXT + 20}, {TEXT + 20, 19, 21, 44},
                {NOTE + 4, 0xcc, 19, NOTE + 4}, {NOTE + 20, 1, 18, NOTE + 20}, {NOTE + 12, 1, 16, NOTE + 12},
                {NOTE + 8, 1, 15, NOTE + 8}, {NOTE + 24, 5, 14, NOTE + 24}, {NOTE + 28, 3, 13, NOTE + 28},
                {NOTE + 5, 1, 12, NOTE + 4}, {NOTE, 2, 11, NOTE},
                {DATA + 4, 0xc8, 19, DATA + 4}, {DATA + 20, 1, 18, DATA + 20}, {DATA + 12, 1, 16, DATA + 12},
                {DATA + 11, 1, 15, DATA + 8}, {DATA + 24, 4, 14, DATA + 24}, {DATA + 28, 5, 13, DATA + 28},
                {DATA + 16, 200, 12, DATA + 4}, {DATA, 5, 11, DATA}, {CONST, 6, 11, CONST}, {TEXT, 7, 11, TEXT},
                {28, 116, 10, 28}, {50, 1, 9, 50}, {48, 1, 9, 48}, {46, 1, 9, 46}, {44, 9, 9, 44}, {42, 1, 9, 42},
                {40, 1, 9, 40}, {36, 2, 9, 36}, {32, 1, 9, 32}, {28, 3, 9, 28}, {20, 2, 9, 20}, {18, 1, 8, 18},
                {16, 1, 7, 16}, {15, 1, 6, 15}, {7, 1, 6, 7}, {6, 2, 5, 6}, {5, 2, 4, 5}, {4, 2, 3, 4}, {3, 1, 2, 3},
                {0, 1, 2, 0}
            });
        });
        CHECK.sentence("Terms", "Of the TABLE, one by one", () -> {
            // A row's last fault comes ahead of the next row's first; 17 stands between 16 and 18.
            fault(19, TEXT + 4, raw -> raw.u4(TEXT + 4, 160).u4(CONST, 2));
            fault(18, CONST + 20, raw -> raw.u4(CONST + 20, 4).u4(DATA + 16, 1000));
            Samples.longSegments(CHECK, 2, 4096, 4096, true).spoilU4(CONST + 4, 100).read(19, CONST + 4)
                .spoilU4(CONST + 20, 1).read(18, CONST + 20).spoilU4(CONST + 16, 4097).read(17, CONST + 16)
                .spoilU4(CONST + 12, 1).read(16, CONST + 12).spoil(DATA, 9).read(16, CONST + 12);
        });
    }

    private static void steps(int[][] steps) {
        Hand hand = fresh().feed(Samples.fileOfAllThree()).read();
        for (int[] step : steps) {
            hand.spoil(step[0], step[1]).read(step[2], step[3]);
        }
        hand.cut(51).read(1, 51);
    }

    private static void image() {
        CHECK.sentence("Terms", "(its PAGE: the greatest last number of its segments)", () -> {
            // The NOTE's isn't one of them, nor is that of a row of 0.
            fresh().feed(Samples.fileOfAllThree().u4(NOTE + 28, 4096)).read().told(1, 1);
            fresh().feed(Samples.fileOfAllThree().u4(TEXT + 28, 2).u4(CONST + 28, 4)).read().told(1, 4);
            fresh().feed(Samples.fileOfAllThree().u4(TEXT + 28, 4).u4(CONST + 28, 2)).read().told(1, 4);
            fresh().feed(eightRows()).read().told(1, 4).spoilU2(112 + 96 + 28, 1).read().told(1, 2)
                .spoilU2(112 + 224 + 28, 1).read().told(1, 1);
            // One without bytes counts.
            mended(raw -> raw.row(CONST, 1, 0, 4096, 4096, 0, 0, 4, 4096), 4100, 4096, 0, Samples.TEXT, 4096, 0,
                8192, 5, Samples.DATA, Samples.MARKS).told(1, 4096);
        });
        CHECK.sentence("Terms", "the READ image is what the FILE tells", () -> {
            Hand hand = fresh().feed(eightRows()).read().byteIn(4116, 0xc0).byteIn(8192, 0xd0).wordIn(4096, 0x03020113);
            hand.hasSegment(0, 4096, 20, 0).hasSegment(1, 4116, 3, 0).hasSegment(2, 8192, 2, 5).keep().page(0);
            Samples.madeIsAllThree(hand).fileIs(Samples.fileOfAllThree());
        });
    }
}
