/** Promise 9: write; and of the terms, what a good image is, THE SUM, and WRITING. */
public final class WritingTest {
    private static final Check CHECK = new Check("WritingTest");
    private static final int NONE = -1;

    public static void main(String[] args) {
        written();
        refused();
        goodText();
        goodMemory();
        commonMemory();
        instructions();
        goodMarks();
        goodEntry();
        orderOfFaults();
        theSum();
        layout();
        note();
        CHECK.finish();
    }

    private static Hand fresh() {
        return new Hand(CHECK);
    }

    // Promise 9

    private static void written() {
        CHECK.sentence("Promise 9", "The FILE is the MADE image, WRITTEN: how many bytes.", () -> {
            Samples.allThree(CHECK).write(Samples.SIZE).fileIs(Samples.fileOfAllThree());
            Samples.textAt(CHECK, 64).write(Samples.SIX_SIZE).fileIs(Samples.fileOfTextAt(64)).write(Samples.SIX_SIZE)
                .fileIs(Samples.fileOfTextAt(64));
        });
        CHECK.sentence("Promise 9", "The FILE is the MADE image", () -> {
            // Whatever FILE was ahead of it, and nothing was read by it.
            Hand hand = Samples.textAt(CHECK, 64);
            for (int i = 0; i < 30; i++) {
                hand.feed(8, -1, true);
            }
            hand.write(Samples.SIX_SIZE).fileIs(Samples.fileOfTextAt(64)).place(NONE);
            Samples.readIsEmpty(hand);
            Samples.fullFile(CHECK).clear().segment(0, 64, 0).bytes(0, Samples.SIX).marks(0, 4).entry(64)
                .write(Samples.SIX_SIZE).fileIs(Samples.fileOfTextAt(64));
        });
    }

    private static void refused() {
        CHECK.sentence("Promise 9", "Refused (the FILE stays): -1 .. -5 for what GOOD says first that isn't so", () -> {
            Samples.textAt(CHECK, 64).write(Samples.SIX_SIZE).put(0, 1, 0, true).write(-1)
                .fileIs(Samples.fileOfTextAt(64)).read().about(0, 2, 6);
            Samples.textAt(CHECK, 64).write(Samples.SIX_SIZE).segment(0, 131071, 0).write(-2)
                .fileIs(Samples.fileOfTextAt(64)).read().about(0, 1, 64);
            Samples.textAt(CHECK, 64).write(Samples.SIX_SIZE).segment(2, 60, 5).write(-3)
                .fileIs(Samples.fileOfTextAt(64)).read().hasNot(2);
            Samples.textAt(CHECK, 64).write(Samples.SIX_SIZE).marks(2).write(-4)
                .fileIs(Samples.fileOfTextAt(64)).read().told(3, 2);
            Samples.textAt(CHECK, 64).write(Samples.SIX_SIZE).entry(66).write(-5)
                .fileIs(Samples.fileOfTextAt(64)).read().told(0, 64);
            fresh().feed(3, Samples.highest(7, 8, 9), true).write(-1).fileIs(RawFile.ofSize(3).bytes(0, 7, 8, 9));
            // The MADE image stays, too: what was wanting is mended by a call.
            Samples.textAt(CHECK, 64).entry(66).write(-5).entry(64).write(Samples.SIX_SIZE).marks(2).write(-4).unmark(2)
                .write(Samples.SIX_SIZE).fileIs(Samples.fileOfTextAt(64));
        });
        CHECK.sentence("Promise 9", "-6 it would have more than 16,384", WritingTest::tooLong);
        CHECK.sentence("Terms", "the FILE, at most 16,384 bytes", () -> {
            // Segments can be far longer by their pages than a FILE may be.
            Hand hand = Samples.fullFile(CHECK).segment(0, 179, 0).segment(1, 8370, 0).segment(2, 20657, 0).entry(179);
            hand.write(-6).size(16384).page(0).write(180 + 3 * 4096 + 284).size(12752).read().told(1, 1);
        });
    }

    private static void tooLong() {
        Hand hand = Samples.fullFile(CHECK).size(16384).byteAt(16383, 255).byteAt(16384, NONE).read().told(3, 2048);
        hand.told(1, 4096).hasSegment(2, 12004, 4096, 0);
        // A place further on, and the NOTE begins four bytes later.
        hand.segment(2, 12005, 0).write(-6).size(16384).byteAt(0, 127).byteAt(16383, 255).u4At(116 + 8, 12004).read();
        hand.about(2, 1, 12004).segment(2, 12004, 0).write(16384);
        for (int back = 1; back <= 4; back++) {
            hand.segment(2, 12004 - back, 0).write(back < 4 ? 16384 : 16380).read().about(2, 1, 12004 - back);
        }
        // What GOOD says comes ahead of it.
        hand.segment(2, 12005, 0).write(-6).entry(179).write(-5).entry(180).write(-6).segment(1, 4275, 0).write(-3);
    }

    // GOOD

    private static void goodText() {
        CHECK.sentence("Terms", "1 TEXT is there, with bytes, an even number of them", () -> {
            fresh().write(-1).segment(0, 0, 0).marks(0).write(-1).put(0, 1, 0, true).write(-1).put(0, 1, 0, true)
                .write(152).put(0, 1, 0, true).write(-1).put(0, 1, 0, true).write(152).drop(0, true).write(-1);
            fresh().segment(1, 0, 0).bytes(1, 0, 0).segment(2, 100, 0).bytes(2, 0, 0).marks(0).write(-1).size(0);
            Samples.longSegments(CHECK, 4094, 0, 0, false).write(180 + 4096 + 284).put(0, 1, 0, true).write(-1)
                .put(0, 1, 0, true).write(180 + 4096 + 284).read().about(0, 2, 4096);
        });
    }

    private static void goodMemory() {
        CHECK.sentence("Terms", "2 no segment goes beyond address 131,071", () -> {
            Samples.textAt(CHECK, 131066).write(156).read().byteIn(131071, 4).segment(0, 131067, 0).entry(131067).write(-2)
                .segment(0, 131071, 0).entry(131071).write(-2).read().about(0, 1, 131066);
            Samples.textAt(CHECK, 0).segment(1, 131071, 0).write(188).put(1, 1, 0, true).write(188)
                .put(1, 1, 0, true).write(-2).segment(1, 131070, 0).write(188).segment(1, 131071, 0).write(-2);
            Samples.textAt(CHECK, 0).segment(2, 131071, 0).write(188).segment(2, 131071, 1).write(188)
                .segment(2, 131071, 2).write(-2).segment(2, 131070, 2).write(188).put(2, 1, 0, true).write(-2)
                .segment(2, 131070, 1).write(188).segment(2, 131070, 32768).write(-2)
                .segment(2, 131072 - 32768, 32768).write(-2).segment(2, 131071 - 32768, 32768).write(188);
        });
        CHECK.sentence("Terms", "no segment goes beyond address 131,071", () -> {
            // The full ones.
            Samples.longSegments(CHECK, 4096, 0, 0, true).segment(0, 126976, 0).entry(126976).write(180 + 4096 + 284)
                .segment(0, 126977, 0).entry(126977).write(-2);
            Samples.longSegments(CHECK, 2, 4096, 0, true).segment(1, 126976, 0).write(180 + 4100 + 32)
                .segment(1, 126977, 0).write(-2);
            Samples.longSegments(CHECK, 2, 0, 4096, true).segment(2, 94208, 32768).write(180 + 4100 + 32)
                .segment(2, 94209, 32768).write(-2).segment(2, 94209, 32767).write(180 + 4100 + 32);
        });
    }

    private static void commonMemory() {
        CHECK.sentence("Terms", "3 no two have a byte of memory in common", () -> {
            // TEXT has the addresses 100 .. 105: others right ahead, right behind, and with one byte of it.
            for (int s = 1; s <= 2; s++) {
                with(s, 94, 6, 0).write(192).segment(s, 95, 0).write(-3).segment(s, 105, 0).write(-3);
                with(s, 106, 1, 0).write(188).segment(s, 105, 0).write(-3).segment(s, 100, 0).write(-3)
                    .segment(s, 99, 0).write(188).segment(s, 103, 0).write(-3);
                with(s, 98, 8, 0).write(-3);
                with(s, 102, 2, 0).write(-3);
                with(s, 99, 8, 0).write(-3);
            }
        });
        CHECK.sentence("Terms", "a byte of memory", () -> {
            // Bytes of MORE are such; a segment with none has none in common, wherever it is.
            with(2, 90, 2, 8).write(188).segment(2, 90, 9).write(-3).segment(2, 91, 8).write(-3);
            with(2, 0, 0, 32768).write(-3).segment(2, 0, 100).write(188).segment(2, 0, 101).write(-3);
            with(2, 105, 0, 1).write(-3).segment(2, 106, 1).write(188).segment(2, 106, 32768).write(188);
            for (int address = 99; address <= 106; address++) {
                with(1, address, 0, 0).write(188);
                with(2, address, 0, 0).write(188).segment(1, address, 0).write(220);
            }
        });
        CHECK.sentence("Terms", "no two have a byte of memory in common", () -> {
            // CONST has 200 .. 203, and no common byte with TEXT.
            Hand hand = with(1, 200, 4, 0).segment(2, 204, 3).write(224).segment(2, 203, 3).write(-3);
            hand.segment(2, 197, 3).write(224).segment(2, 198, 3).write(-3).segment(2, 201, 1).write(-3);
            hand.segment(2, 203, 0).write(224).segment(2, 106, 94).write(224).segment(2, 106, 95).write(-3);
            hand.segment(2, 105, 94).write(-3).segment(2, 0, 100).write(224).segment(2, 0, 101).write(-3);
        });
    }

    /** TEXT has the addresses 100 .. 105; the other segment an address, bytes, and more. */
    private static Hand with(int s, int address, int bytes, int more) {
        return Samples.textAt(CHECK, 100).segment(s, address, more).bytes(s, new int[bytes]);
    }

    private static void instructions() {
        CHECK.sentence("Terms", "of 4 bytes if both of the lowest bits of its first byte are 1, else of 2; it is SHORT then",
            () -> {
                for (int b = 0; b < 256; b++) {
                    boolean four = b % 4 == 3;
                    fresh().segment(0, 0, 0).bytes(0, b, 3, 3, 3).marks(0).write(152).byteAt(36, four ? 0 : 1).read()
                        .marked(0, four ? 4 : 2).told(4, four ? 0 : 1).marks(2).write(-4);
                    fresh().segment(0, 0, 0).bytes(0, b, 0, 0, 0).marks(0, 2).write(four ? -4 : 152);
                }
            });
        CHECK.sentence("Terms", "U4 1 if a MARK is SHORT, else 0", () -> {
            Hand hand = fresh().segment(0, 0, 0).bytes(0, 3, 0, 0, 0, 3, 0, 0, 0, 2, 0, 3, 0, 0, 0).marks(0).write(164);
            hand.u4At(36, 0).marks(4).write(164).u4At(36, 0).marks(10).write(164).u4At(36, 0).marks(8).write(164);
            hand.u4At(36, 1).unmark(0).entry(4).write(164).u4At(36, 1).unmark(8).write(164).u4At(36, 0);
            Samples.fullFile(CHECK).byteAt(36, 1);
        });
    }

    private static void goodMarks() {
        CHECK.sentence("Terms", "4 each MARK's instruction lies wholly in TEXT", () -> {
            Hand two = fresh().segment(0, 0, 0).bytes(0, 0, 0, 2, 0).marks(0).write(152).marks(2).write(152);
            two.marks(4).write(-4).unmark(4).marks(6).write(-4).unmark(6).marks(4094).write(-4).unmark(4094).write(152);
            Hand four = fresh().segment(0, 0, 0).bytes(0, 0, 0, 3, 0).marks(0, 2).write(-4).put(0, 1, 0, true).write(-1);
            four.put(0, 1, 0, true).write(156).marks(4).write(-4).unmark(2).write(156);
            fresh().segment(0, 0, 0).bytes(0, 3, 0).marks(0).write(-4).bytes(0, 0, 0).write(152);
        });
        CHECK.sentence("Terms", "lies wholly in TEXT", () -> {
            // The full one: its last MARK may be SHORT alone, four bytes end with it from 4092 on.
            Samples.longSegments(CHECK, 4096, 0, 0, true).write(180 + 4096 + 284).mark(4094, true, false);
            Samples.longSegments(CHECK, 4088, 0, 0, false).put(0, 8, Samples.highest(0, 0, 0, 0, 0, 0, 3, 0), true)
                .write(180 + 4096 + 284).marks(4094).write(-4).unmark(4094).write(180 + 4096 + 284);
            Samples.longSegments(CHECK, 4088, 0, 0, false).put(0, 8, Samples.highest(0, 0, 0, 0, 3, 0, 2, 0), true)
                .marks(4092).write(180 + 4096 + 284).marks(4094).write(-4).unmark(4092).write(180 + 4096 + 284);
        });
        CHECK.sentence("Terms", "and ends at or ahead of the next MARK", () -> {
            Hand hand = fresh().segment(0, 0, 0).bytes(0, 3, 0, 3, 0, 3, 0, 2, 0, 1, 0).marks(0).write(160);
            hand.marks(2).write(-4).unmark(2).marks(4).write(160).marks(6).write(-4).unmark(6).marks(8).write(160);
            hand.unmark(4).marks(6).write(160).unmark(8).write(160);
            // Over the edge of a MARK BYTE.
            Hand next = fresh().segment(0, 0, 0).bytes(0, new int[14]).bytes(0, 3, 0, 0, 0).marks(0, 14).write(168);
            next.marks(16).write(-4).unmark(14).write(168);
        });
    }

    private static void goodEntry() {
        CHECK.sentence("Terms", "5 ENTRY is the address of a MARK", () -> {
            Hand hand = Samples.textAt(CHECK, 64).write(156).entry(68).write(156);
            for (int other : new int[] {63, 65, 66, 67, 69, 70, 72, 0, 4, 64 + 4094, 64 + 4096, 131071, 131072}) {
                hand.entry(other).write(-5);
            }
            // By a wrap-around from 2 to the 31 or 32 it would be 64 or 68.
            for (int other : new int[] {-1, -64, 64 - (1 << 30), Integer.MIN_VALUE + 64, Integer.MAX_VALUE, 1 << 30 | 64}) {
                hand.entry(other).write(-5);
            }
            hand.unmark(0).entry(64).write(-5).entry(68).write(156).unmark(4).write(-5);
        });
        CHECK.sentence("Terms", "ENTRY is the address of a MARK", () -> {
            // No MARK at all; and the last of the full one.
            fresh().segment(0, 0, 0).bytes(0, 0, 0).write(-5).entry(2).write(-5).marks(0).write(-5).entry(0).write(152);
            int last = Samples.LONG_TEXT + 4094;
            Samples.longSegments(CHECK, 4096, 0, 0, true).entry(last + 2).write(-5).entry(last).write(180 + 4096 + 284)
                .entry(last + 1).write(-5).unmark(4094).entry(last).write(-5);
        });
    }

    private static void orderOfFaults() {
        CHECK.sentence("Terms", "Its faults are tried in this order", () -> {
            for (int wrong = 0; wrong < 32; wrong++) {
                Hand hand = fresh();
                boolean meets = (wrong & 4) != 0;
                int text = (wrong & 2) != 0 ? 131069 : 100;
                hand.segment(0, text, 0).bytes(0, 0, 0, 0, 0).marks(0).entry(text);
                hand.segment(1, meets ? text : 200, 0).put(1, 1, 0, true);
                if ((wrong & 1) != 0) {
                    hand.put(0, 1, 0, true);
                }
                if ((wrong & 8) != 0) {
                    hand.marks(40);
                }
                if ((wrong & 16) != 0) {
                    hand.entry(5);
                }
                hand.write(wrong == 0 ? 52 + 96 + 8 + 32 : -1 - Integer.numberOfTrailingZeros(wrong));
            }
        });
    }

    // THE SUM

    private static void theSum() {
        CHECK.sentence("Terms", "a register of 32 bits, all 1 at first", () -> {
            for (int[] bytes : new int[][] {{}, {0}, {1}, {128}, {255}, {0, 0, 0, 0}, Samples.TEXT, Samples.MARKS}) {
                CHECK.due("THE SUM by the document's words", RawFile.sum(bytes), sumByWords(bytes));
            }
            fresh().told(2, sumByWords(0, 0, 0, 0)).told(2, 558161692);
        });
        CHECK.sentence("Terms", "for each segment that is there, from 0 on: U4 ADDRESS, U4 MORE, its BYTES", () -> {
            int[] text = {0, 0};
            int[] marks = {1};
            Hand hand = fresh().segment(0, 7, 0).bytes(0, text).marks(0).entry(7).write(152).read();
            hand.told(2, RawFile.sum(7, 7, 0, text, marks)).segment(2, 131000, 0).write(184).read();
            hand.told(2, RawFile.sum(7, 7, 0, text, 131000, 0, marks)).segment(2, 90000, 32768).write(184).read();
            hand.told(2, RawFile.sum(7, 7, 0, text, 90000, 32768, marks)).segment(1, 0, 0).write(216).read();
            hand.told(2, RawFile.sum(7, 7, 0, text, 0, 0, 90000, 32768, marks)).put(1, 1, -1, true).write(216).read();
            hand.told(2, RawFile.sum(7, 7, 0, text, 0, 0, new int[] {255}, 90000, 32768, marks));
            hand.page(3).write(232).read().told(2, RawFile.sum(7, 7, 0, text, 0, 0, new int[] {255}, 90000, 32768, marks));
        });
        CHECK.sentence("Terms", "THE SUM of an image", () -> {
            byte[] zeros = new byte[4096];
            byte[] marks = Samples.markBytes(4096, true);
            Samples.fullFile(CHECK).read().told(2, RawFile.sum(180, 180, 0, zeros, 4276, 0, zeros, 12004, 0, zeros, marks));
        });
    }

    private static long sumByWords(int... bytes) {
        long register = 0xffffffffL;
        for (int b : bytes) {
            for (int bit = 0; bit < 8; bit++) {
                long off = register & 1 ^ b >> bit & 1;
                register >>= 1;
                if (off == 1) {
                    register ^= 3988292384L;
                }
            }
        }
        return register ^ 0xffffffffL;
    }

    // WRITING

    private static void layout() {
        CHECK.sentence("Terms", "32 bytes for each segment that is there, from 0 on, and 32 for the NOTE", () -> {
            for (int there = 0; there < 4; there++) {
                writtenWith((there & 1) != 0, (there & 2) != 0);
            }
        });
        CHECK.sentence("Terms", "from the next place on whose rest by PAGE is that of its ADDRESS", () -> {
            for (int power = 0; power <= 12; power++) {
                int page = 1 << power;
                // That place is the next one, the one behind it, and the last one that it can be.
                begins(power, 116, 116);
                begins(power, 117, page == 1 ? 116 : 117);
                begins(power, 115, 115 + page);
                begins(power, 116 + 2 * page, 116);
            }
        });
        CHECK.sentence("Terms", "then each of these segments' BYTES", WritingTest::segmentsByPage);
        CHECK.sentence("Terms", "from the next multiple of 4 on, the NOTE", () -> {
            for (int n = 0; n <= 8; n++) {
                int begin = 148 + 2 + n + 3 & ~3;
                Hand hand = fresh().segment(0, 0, 0).bytes(0, 0, 0).marks(0).segment(1, 2, 0).bytes(1, new int[n]);
                hand.write(begin + 32).u4At(116 + 4, begin).u4At(begin, 6).read();
            }
        });
        CHECK.sentence("Terms", "bytes between are 0", () -> {
            Hand hand = fresh();
            for (int i = 0; i < 35; i++) {
                hand.feed(8, -1, true);
            }
            hand.page(5).segment(0, 0, 0).bytes(0, 1, 0).marks(0).segment(2, 31, 0).put(2, 1, -1, true);
            hand.write(192 + 32).byteAt(159, 0).byteAt(160, 1);
            for (int k = 148; k < 192; k++) {
                hand.byteAt(k, k == 160 ? 1 : k == 191 ? 255 : 0);
            }
            hand.byteAt(192 + 29, 0).byteAt(192 + 30, 0).byteAt(192 + 31, 0).byteAt(224, NONE);
        });
    }

    private static void writtenWith(boolean constant, boolean data) {
        int rows = 2 + (constant ? 1 : 0) + (data ? 1 : 0);
        int at = 52 + 32 * rows;
        int row = 84;
        Hand hand = Samples.textAt(CHECK, 64);
        RawFile raw = RawFile.ofSize(at + 12 + 32).head(64, 52, 1, rows);
        raw.row(52, 1, at, 64, 64, 6, 6, 5, 1).bytes(at, Samples.SIX);
        at += 6;
        long sum = RawFile.sum(64, 64, 0, Samples.SIX, new int[] {5});
        if (constant) {
            hand.segment(1, 70, 0).bytes(1, 0xcc);
            raw.row(row, 1, at, 70, 70, 1, 1, 4, 1).bytes(at, 0xcc);
            at += 1;
            row += 32;
            sum = RawFile.sum(64, 64, 0, Samples.SIX, 70, 0, new int[] {0xcc}, new int[] {5});
        }
        if (data) {
            hand.segment(2, 1, 63);
            raw.row(row, 1, at, 1, 1, 0, 63, 6, 1);
            row += 32;
            sum = constant ? RawFile.sum(64, 64, 0, Samples.SIX, 70, 0, new int[] {0xcc}, 1, 63, new int[] {5})
                : RawFile.sum(64, 64, 0, Samples.SIX, 1, 63, new int[] {5});
        }
        at = (at + 3) / 4 * 4;
        raw.row(row, 4, at, 0, 0, 32, 0, 4, 4).note(at, 32, 3, sum, 5).cut(at + 32);
        hand.write(raw.bytes.length).fileIs(raw);
    }

    private static void begins(int power, int address, int begin) {
        Hand hand = Samples.textAt(CHECK, address).page(power).write((begin + 6 + 3) / 4 * 4 + 32);
        hand.u4At(52 + 4, begin).u4At(52 + 28, 1 << power).byteAt(begin - 1, 0);
        hand.byteAt(begin, 0x13).byteAt(begin + 5, 4).read().told(1, 1 << power).about(0, 1, address);
    }

    /** One without bytes has a place by its page, too, and what follows begins from there on. */
    private static void segmentsByPage() {
        RawFile raw = RawFile.ofSize(312).head(70, 52, 1, 4);
        raw.row(52, 1, 198, 70, 70, 6, 6, 5, 64);
        raw.row(84, 1, 232, 1000, 1000, 0, 0, 4, 64);
        raw.row(116, 1, 277, 2005, 2005, 1, 10, 6, 64);
        raw.row(148, 4, 280, 0, 0, 32, 0, 4, 4);
        raw.bytes(198, Samples.SIX).bytes(277, 0xdd);
        long sum = RawFile.sum(70, 70, 0, Samples.SIX, 1000, 0, 2005, 9, new int[] {0xdd}, new int[] {5});
        raw.note(280, 32, 3, sum, 5);
        Samples.textAt(CHECK, 70).page(6).segment(1, 1000, 0).segment(2, 2005, 9).bytes(2, 0xdd)
            .write(312).fileIs(raw);
        // The last one has no bytes: the NOTE begins behind its place all the same.
        Samples.textAt(CHECK, 0).page(12).segment(2, 4095, 1).write(8192 + 32).u4At(84 + 4, 8191).u4At(116 + 4, 8192)
            .read().hasSegment(2, 4095, 0, 1);
    }

    private static void note() {
        CHECK.sentence("Terms", "as many as TEXT has sixteenths of bytes, upwards", () -> {
            for (int text : new int[] {2, 14, 16, 18, 30, 32, 34, 48, 50, 62, 64, 66, 78, 80, 82, 126, 128, 130}) {
                markBytesOf(text);
            }
        });
        CHECK.sentence("Terms", "byte i has at bit j the MARK of offset 16 i + 2 j", () -> {
            for (int offset = 0; offset < 48; offset += 2) {
                Hand hand = fresh().segment(0, 0, 0).bytes(0, new int[48]).marks(offset).entry(offset).write(196);
                for (int i = 0; i < 4; i++) {
                    hand.byteAt(164 + 28 + i, i == offset / 16 ? 1 << offset % 16 / 2 : 0);
                }
            }
        });
        CHECK.sentence("Terms", "U4 half of TEXT's bytes, U4 THE SUM, the MARK BYTES, and 0s up to a multiple of 4", () -> {
            Hand hand = Samples.fullFile(CHECK).u4At(148 + 4, 16100).u4At(148 + 16, 284).u4At(16100 + 4, 264);
            hand.u4At(16100 + 20, 2048);
            for (int k = 16100 + 28; k < 16384; k++) {
                hand.byteAt(k, 255);
            }
            Samples.longSegments(CHECK, 4094, 0, 0, true).write(180 + 4096 + 284).u4At(148 + 16, 284)
                .byteAt(180 + 4094, 0).byteAt(180 + 4095, 0).u4At(4276 + 20, 2047).byteAt(4276 + 28 + 255, 127);
        });
    }

    private static void markBytesOf(int text) {
        int markBytes = (text + 15) / 16;
        int tail = (markBytes + 3) / 4 * 4;
        int begin = (116 + text + 3) / 4 * 4;
        Hand hand = fresh().segment(0, 0, 0).bytes(0, new int[text]);
        for (int offset = 0; offset < text; offset += 2) {
            hand.marks(offset);
        }
        hand.write(begin + 28 + tail).u4At(84 + 16, 28 + tail).u4At(begin + 4, 8 + tail).u4At(begin + 20, text / 2);
        byte[] marks = Samples.markBytes(text, true);
        for (int i = 0; i < tail; i++) {
            hand.byteAt(begin + 28 + i, i < markBytes ? marks[i] & 255 : 0);
        }
        hand.u4At(begin + 24, RawFile.sum(0, 0, 0, new byte[text], marks)).read().told(3, text / 2).told(4, text / 2);
    }
}
