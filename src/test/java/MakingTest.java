/** Promises 1 to 8: a new object, clear, entry, page, segment, drop, put, mark. */
public final class MakingTest {
    private static final Check CHECK = new Check("MakingTest");
    private static final int NONE = -1;

    public static void main(String[] args) {
        newObject();
        clear();
        entry();
        page();
        segment();
        drop();
        put();
        mark();
        CHECK.finish();
    }

    private static Hand fresh() {
        return new Hand(CHECK);
    }

    // Promise 1

    private static void newObject() {
        CHECK.sentence("The constants", "`NONE = -1`: None.", () -> CHECK.due("NONE", ImageFile.NONE, -1));
        CHECK.sentence("What it is", "An object is used for at most 512 calls after it has been made", () -> {
            Hand texts = fresh().segment(0, 0, 0).bytes(0, new int[8 * 506]).marks(0).write(116 + 4048 + 284).read().told(3, 1);
            CHECK.due("calls of an object", texts.calls(), 512);
            Hand files = fresh();
            for (int i = 0; i < 510; i++) {
                files.feed(8, i, true);
            }
            CHECK.due("calls of an object", files.byteAt(8 * 510 - 1, 509 & 255).size(4080).calls(), 512);
        });
        CHECK.sentence("Promise 1", "Both images are empty (ENTRY 0, no segment, no MARK)", () -> {
            Hand hand = Samples.readIsEmpty(fresh());
            hand.byteIn(0, NONE).byteIn(131071, NONE).wordIn(0, NONE).wordIn(131068, NONE).rights(0, 0);
            hand.marked(0, 0).marked(4094, 0).markBelow(0, NONE).markBelow(Integer.MAX_VALUE, NONE);
            hand.write(-1).drop(0, false).drop(1, false).drop(2, false);
        });
        CHECK.sentence("Promise 1", "no MARK", MakingTest::noMarkAtAll);
        CHECK.sentence("Promise 1", "ENTRY 0", () ->
            fresh().segment(0, 0, 0).bytes(0, 0, 0).marks(0).write(152).read().told(0, 0));
        CHECK.sentence("Promise 1", "no FILE", () ->
            fresh().size(0).byteAt(0, NONE).spoil(0, 0, NONE).cut(1, false).cut(0, true).size(0));
        CHECK.sentence("Promise 1", "nothing was read", () -> fresh().place(NONE));
        CHECK.sentence("Terms", "1 at first", () ->
            Samples.textAt(CHECK, 64).told(1, 1).write(Samples.SIX_SIZE).u4At(52 + 28, 1).read().told(1, 1));
        CHECK.sentence("Terms", "both empty at first", () -> {
            Hand full = Samples.longSegments(CHECK, 4096, 4096, 4096, true).told(3, 2048);
            Samples.readIsEmpty(fresh()).write(-1).size(0).place(NONE);
            full.told(3, 2048).hasSegment(0, Samples.LONG_TEXT, 4096, 0);
        });
    }

    /** More offsets than calls: some 400 of them an object. */
    private static void noMarkAtAll() {
        for (int first = 0; first < 4096; first += 800) {
            Hand hand = fresh();
            for (int offset = first; offset < Math.min(4096, first + 800); offset += 2) {
                hand.mark(offset, false, false);
            }
        }
    }

    // Promise 2

    private static void clear() {
        CHECK.sentence("Promise 2", "The MADE image is empty.", () -> {
            Hand hand = Samples.allThree(CHECK).write(Samples.SIZE).clear();
            hand.write(-1).drop(0, false).drop(1, false).drop(2, false).put(0, 1, 0, false);
            for (int offset = 0; offset < 64; offset += 2) {
                hand.mark(offset, false, false);
            }
            // ENTRY is 0 again, and PAGE 1: what follows is good without a call of entry().
            hand.page(12).clear().segment(0, 0, 0).bytes(0, 0, 0).marks(0).write(152).u4At(52 + 28, 1);
            hand.read().told(0, 0).told(3, 1).hasSegment(0, 0, 2, 0).hasNot(1).hasNot(2);
        });
        CHECK.sentence("Promise 2", "The MADE image is empty", () -> {
            // An empty one stays so; and of the full one nothing is left.
            fresh().clear().write(-1).clear().drop(0, false).size(0).place(NONE);
            Samples.longSegments(CHECK, 4096, 4096, 4096, true).clear().write(-1).mark(0, false, false)
                .mark(4094, false, false).drop(0, false).drop(1, false).drop(2, false).segment(0, 0, 0).write(-1)
                .bytes(0, 0, 0).write(-5).marks(0).write(152).read().told(3, 1).hasSegment(0, 0, 2, 0);
        });
        CHECK.sentence("Promise 2", "The MADE image", () -> {
            // The READ image, the FILE and the PLACE stay.
            Hand hand = Samples.allThree(CHECK).write(Samples.SIZE).read().spoil(0, 0).read(2, 0).clear().place(0);
            Samples.readIsAllThree(hand).fileIs(Samples.fileOfAllThree().bytes(0, 0));
            Samples.madeIsAllThree(hand.keep());
        });
    }

    // Promise 3

    private static void entry() {
        CHECK.sentence("Promise 3", "Its ENTRY.", () -> {
            Hand hand = Samples.textAt(CHECK, 64);
            hand.entry(68).write(Samples.SIX_SIZE).u4At(24, 68).entry(64).write(Samples.SIX_SIZE).u4At(24, 64);
            hand.entry(0).entry(68).write(Samples.SIX_SIZE).u4At(24, 68).read().told(0, 68);
        });
        CHECK.sentence("Promise 3", "Its ENTRY", () -> {
            // The lowest and the highest address that can have a MARK, and any other int: it is taken, but not GOOD.
            fresh().segment(0, 0, 0).bytes(0, 0, 0).marks(0).entry(0).write(152).u4At(24, 0).read().told(0, 0);
            Hand hand = fresh().segment(0, 131070, 0).bytes(0, 0, 0).marks(0).entry(131070).write(152);
            hand.u4At(24, 131070).read().told(0, 131070);
            for (int other : new int[] {-1, 131069, 131071, 131072, Integer.MIN_VALUE, Integer.MAX_VALUE}) {
                hand.entry(other).write(-5);
            }
            hand.told(0, 131070).size(152).entry(131070).write(152);
        });
    }

    // Promise 4

    private static void page() {
        CHECK.sentence("Promise 4", "Its PAGE is 2 to the power.", () -> {
            for (int power = 0; power <= 12; power++) {
                int page = 1 << power;
                int begin = (116 + page - 1) / page * page;
                Hand hand = Samples.textAt(CHECK, 0).page(power, true);
                hand.write((begin + 6 + 3) / 4 * 4 + 32).u4At(56, begin).u4At(80, page).byteAt(begin, 0x13);
                hand.read().told(1, page);
            }
        });
        CHECK.sentence("Promise 4", "False, refused, when power is not 0 .. 12.", () -> {
            Hand hand = Samples.textAt(CHECK, 0).page(0, true).page(-1, false).page(12, true).page(13, false);
            hand.write(4096 + 8 + 32).read().told(1, 4096).page(0, true).page(-1, false);
            hand.write(Samples.SIX_SIZE).read().told(1, 1);
        });
        CHECK.sentence("Promise 4", "refused, when power is not 0 .. 12", () -> {
            Hand hand = Samples.textAt(CHECK, 0).page(5);
            // A shift by 32, 37 or -27 would be one by 0 or 5.
            for (int wrong : new int[] {-1, 13, 31, 32, 37, 44, 64, -20, -27, -32, 256, 4096}) {
                hand.page(wrong, false).write(128 + 8 + 32).read().told(1, 32);
            }
            for (int wrong : Samples.FAR) {
                hand.page(wrong, false).write(128 + 8 + 32).read().told(1, 32);
            }
        });
    }

    // Promise 5

    private static void segment() {
        CHECK.sentence("Promise 5", "Segment s is there, with an ADDRESS and MORE", () ->
            Samples.textAt(CHECK, 64).segment(1, 200, 0).segment(2, 300, 9).write(52 + 128 + 8 + 32).read()
                .hasSegment(0, 64, 6, 0).hasSegment(1, 200, 0, 0).hasSegment(2, 300, 0, 9));
        CHECK.sentence("Promise 5", "its BYTES stay if it was there, else it has none", MakingTest::bytesStay);
        CHECK.sentence("Promise 5", "when there is no such segment", () -> {
            Hand hand = Samples.allThree(CHECK).segment(-1, 0, 0, false).segment(3, 0, 0, false);
            for (int wrong : Samples.FAR) {
                hand.segment(wrong, 0, 0, false);
            }
            Samples.madeIsAllThree(hand);
        });
        CHECK.sentence("Promise 5", "or a number is not as said", () -> {
            // Refused for a segment that is not there: it is not there then, either.
            Hand hand = Samples.textAt(CHECK, 64);
            hand.segment(1, -1, 0, false).segment(1, 131072, 0, false).segment(1, 0, 1, false).drop(1, false);
            hand.segment(2, -1, 0, false).segment(2, 131072, 0, false).segment(2, 0, 32769, false);
            hand.segment(2, 0, -1, false).drop(2, false).put(1, 1, 0, false).put(2, 1, 0, false);
            hand.write(Samples.SIX_SIZE).read().hasNot(1).hasNot(2);
        });
        CHECK.sentence("Terms", "an ADDRESS, 0 .. 131,071", MakingTest::addresses);
        CHECK.sentence("Terms", "MORE, how many bytes 0 lie behind them in memory: 0 .. 32,768", () -> {
            Hand hand = Samples.textAt(CHECK, 64).segment(2, 1000, 0).write(188).read().about(2, 3, 0);
            hand.segment(2, 1000, 1).write(188).read().about(2, 3, 1);
            hand.segment(2, 1000, 32768).write(188).read().about(2, 3, 32768);
            hand.segment(2, 2000, -1, false).segment(2, 2000, 32769, false);
            for (int wrong : Samples.FAR) {
                hand.segment(2, 2000, wrong, false);
            }
            hand.write(188).read().hasSegment(2, 1000, 0, 32768);
        });
        CHECK.sentence("Terms", "of TEXT and CONST 0", () -> {
            for (int s = 0; s <= 1; s++) {
                Hand hand = Samples.allThree(CHECK).segment(s, 0, -1, false).segment(s, 0, 1, false);
                hand.segment(s, 0, 32767, false).segment(s, 0, 32768, false).segment(s, 0, 32769, false);
                for (int wrong : Samples.FAR) {
                    hand.segment(s, 0, wrong, false);
                }
                Samples.madeIsAllThree(hand).segment(s, 0, 0, true);
            }
        });
    }

    private static void bytesStay() {
        Hand hand = Samples.allThree(CHECK).segment(0, 20000, 0).segment(1, 30000, 0).segment(2, 40000, 7);
        hand.entry(20004).write(Samples.SIZE).read();
        hand.hasSegment(0, 20000, 20, 0).hasSegment(1, 30000, 3, 0).hasSegment(2, 40000, 2, 7);
        hand.told(2, RawFile.sum(20004, 20000, 0, Samples.TEXT, 30000, 0, Samples.CONST, 40000, 7, Samples.DATA,
            Samples.MARKS));
        // With none it stays so; and what was dropped has none when it is there again.
        hand.drop(1, true).segment(1, 30000, 0).segment(1, 30001, 0).drop(2, true).segment(2, 40000, 0);
        hand.write(180 + 20 + 32).read().hasSegment(1, 30001, 0, 0).hasSegment(2, 40000, 0, 0);
        hand.put(1, 1, Samples.highest(9), true).write(180 + 24 + 32).read().byteIn(30001, 9).byteIn(30002, NONE);
        // The full one stays full.
        Samples.longSegments(CHECK, 4096, 4096, 4096, true).segment(1, 4276, 0).segment(2, 9000, 32768)
            .put(1, 1, 0, false).put(2, 1, 0, false).write(180 + 3 * 4096 + 284).read()
            .hasSegment(0, Samples.LONG_TEXT, 4096, 0).hasSegment(1, 4276, 4096, 0).hasSegment(2, 9000, 4096, 32768);
    }

    private static void addresses() {
        for (int s = 0; s < 3; s++) {
            Hand hand = Samples.allThree(CHECK);
            hand.segment(s, -1, 0, false).segment(s, 131072, 0, false).segment(s, 131073, 0, false);
            for (int wrong : Samples.FAR) {
                hand.segment(s, wrong, 0, false);
            }
            Samples.madeIsAllThree(hand);
            // Of two bytes, 131,071 is one too high in memory, and 0 is taken as it stands.
            hand.segment(s, 131071, 0, true).write(-2).segment(s, 0, 0, true).entry(s == 0 ? 4 : 4100).write(Samples.SIZE);
            hand.read().about(s, 1, 0);
        }
        Samples.textAt(CHECK, 0).segment(1, 131071, 0).segment(2, 131071, 1).write(180 + 8 + 32).read()
            .hasSegment(1, 131071, 0, 0).hasSegment(2, 131071, 0, 1);
    }

    // Promise 6

    private static void drop() {
        CHECK.sentence("Promise 6", "Segment s is not there any more.", () -> {
            Samples.allThree(CHECK).drop(2, true).write(148 + 24 + 32).read()
                .hasSegment(0, 4096, 20, 0).hasSegment(1, 4116, 3, 0).hasNot(2);
            Samples.allThree(CHECK).drop(1, true).write(148 + 24 + 32).read()
                .hasSegment(0, 4096, 20, 0).hasNot(1).hasSegment(2, 8192, 2, 5);
            Samples.allThree(CHECK).drop(0, true).write(-1).put(0, 2, 0, false).size(0);
            Samples.allThree(CHECK).drop(2, true).drop(1, true).write(116 + 20 + 32).read()
                .hasSegment(0, 4096, 20, 0).hasNot(1).hasNot(2).drop(0, true).write(-1);
        });
        CHECK.sentence("Promise 6", "not there any more", () ->
            // MARKS and ENTRY are the image's, not TEXT's: with other BYTES at the same address it is good again.
            Samples.allThree(CHECK).drop(0, true).segment(0, 4096, 0).bytes(0, new int[18]).write(180 + 21 + 3 + 32)
                .read().told(0, 4100).told(3, 5).told(4, 5));
        CHECK.sentence("Promise 6", "False, refused, when it is not there.", () -> {
            for (int s = 0; s < 3; s++) {
                fresh().drop(s, false).segment(s, 0, 0).drop(s, true).drop(s, false).write(-1);
                Samples.allThree(CHECK).drop(s, true).drop(s, false).drop((s + 1) % 3, true).drop(s, false);
            }
        });
        CHECK.sentence("Promise 6", "refused, when it is not there", () -> {
            Hand hand = Samples.allThree(CHECK).drop(-1, false).drop(3, false);
            for (int wrong : Samples.FAR) {
                hand.drop(wrong, false);
            }
            Samples.madeIsAllThree(hand);
            Samples.textAt(CHECK, 64).drop(1, false).drop(2, false).write(Samples.SIX_SIZE).fileIs(Samples.fileOfTextAt(64));
        });
    }

    // Promise 7

    private static void put() {
        CHECK.sentence("Promise 7", "The n highest bytes of eight (the highest first) come behind the BYTES of segment s.",
            MakingTest::highestFirst);
        CHECK.sentence("Promise 7", "when it is not there", () -> {
            Hand hand = Samples.textAt(CHECK, 64).put(1, 1, 0, false).put(2, 8, 0, false);
            hand.put(-1, 1, 0, false).put(3, 1, 0, false);
            for (int wrong : Samples.FAR) {
                hand.put(wrong, 1, 0, false);
            }
            hand.write(Samples.SIX_SIZE).fileIs(Samples.fileOfTextAt(64)).read().hasNot(1).hasNot(2);
            hand.drop(0, true).put(0, 2, 0, false).write(-1).segment(0, 64, 0).write(-1);
        });
        CHECK.sentence("Promise 7", "n isn't 1 .. 8", () -> {
            for (int s = 0; s < 3; s++) {
                Hand hand = Samples.allThree(CHECK).put(s, 0, -1, false).put(s, 9, -1, false).put(s, -1, -1, false);
                for (int wrong : Samples.FAR) {
                    hand.put(s, wrong, -1, false);
                }
                Samples.madeIsAllThree(hand);
            }
            Samples.allThree(CHECK).put(1, 1, 0, true).put(2, 8, 0, true).write(Samples.SIZE + 8).read()
                .about(1, 2, 4).about(2, 2, 10);
        });
        CHECK.sentence("Promise 7", "or it would have more than 4096", MakingTest::upTo4096);
        CHECK.sentence("Terms", "BYTES, at most 4096", () -> {
            Hand hand = Samples.longSegments(CHECK, 4096, 4096, 4096, true);
            for (int s = 0; s < 3; s++) {
                for (int n = 1; n <= 8; n++) {
                    hand.put(s, n, -1, false);
                }
            }
            hand.write(180 + 3 * 4096 + 284).read();
            hand.hasSegment(0, Samples.LONG_TEXT, 4096, 0).hasSegment(1, Samples.LONG_CONST, 4096, 0);
            hand.hasSegment(2, Samples.LONG_DATA, 4096, 0).byteIn(Samples.LONG_DATA + 4095, 0);
            hand.byteIn(Samples.LONG_DATA + 4096, NONE);
        });
    }

    private static void highestFirst() {
        long eight = 0xf1e2d3c4b5a69788L;
        for (int n = 1; n <= 8; n++) {
            for (int s = 0; s < 3; s++) {
                // TEXT needs an even number of bytes, so a second put evens them out.
                Hand hand = Samples.textAt(CHECK, 64).segment(1, 1000, 0).segment(2, 2000, 0);
                hand.put(s, n, eight, true).put(s, n, ~eight, true).write(180 + (6 + 2 * n + 3) / 4 * 4 + 32).read();
                int first = s == 0 ? 70 : 1000 * s;
                hand.about(s, 2, s == 0 ? 6 + 2 * n : 2 * n);
                for (int i = 0; i < n; i++) {
                    hand.byteIn(first + i, 0xff & (int) (eight >>> 56 - 8 * i));
                    hand.byteIn(first + n + i, 0xff & (int) (~eight >>> 56 - 8 * i));
                }
                hand.byteIn(first + 2 * n, NONE);
            }
        }
    }

    private static void upTo4096() {
        for (int n = 1; n <= 8; n++) {
            int before = 4096 - n;
            Hand hand = Samples.longSegments(CHECK, 4088, before, before, false);
            for (int s = 1; s <= 2; s++) {
                for (int more = n + 1; more <= 8; more++) {
                    hand.put(s, more, -1, false);
                }
            }
            hand.write(180 + 4088 + 2 * before + (2 * n & 3) + 284).read().about(1, 2, before).about(2, 2, before);
            hand.put(1, n, 0x0102030405060708L, true).put(2, n, 0x1112131415161718L, true).put(0, 8, -1, true);
            hand.put(0, 1, 0, false).put(1, 1, 0, false).put(2, 1, 0, false).write(180 + 3 * 4096 + 284).read();
            hand.about(0, 2, 4096).about(1, 2, 4096).about(2, 2, 4096);
            hand.byteIn(Samples.LONG_CONST + 4095, n).byteIn(Samples.LONG_DATA + 4095, 0x10 + n);
            hand.byteIn(Samples.LONG_TEXT + 4095, 255).byteIn(Samples.LONG_TEXT + 4087, 0);
        }
        for (int more = 3; more <= 8; more++) {
            Samples.longSegments(CHECK, 4094, 0, 0, false).put(0, more, -1, false).put(0, 2, 0, true)
                .put(0, 1, 0, false).write(180 + 4096 + 284).read().about(0, 2, 4096);
        }
    }

    // Promise 8

    private static void mark() {
        CHECK.sentence("Promise 8", "There is a MARK at an offset, or none.", () -> {
            Hand hand = Samples.textAt(CHECK, 64).unmark(4).write(Samples.SIX_SIZE).read().told(3, 1).marked(68, 0);
            hand.marks(4).write(Samples.SIX_SIZE).read().told(3, 2).marked(68, 2).marked(64, 4);
        });
        CHECK.sentence("Terms", "for each even offset in TEXT, 0 .. 4094, one or none", MakingTest::eachOffset);
        CHECK.sentence("Promise 8", "when it is not even", () -> {
            Hand hand = Samples.allThree(CHECK);
            for (int odd : new int[] {-3, -1, 1, 3, 5, 15, 17, 4093, 4095, 4097, Integer.MAX_VALUE}) {
                hand.mark(odd, true, false).mark(odd, false, false);
            }
            Samples.madeIsAllThree(hand);
        });
        CHECK.sentence("Promise 8", "0 .. 4094", () -> {
            Hand hand = Samples.allThree(CHECK);
            for (int wrong : new int[] {-2, -4, -4096, 4096, 4098, 8192, 65536, Integer.MIN_VALUE, Integer.MAX_VALUE - 1}) {
                hand.mark(wrong, true, false).mark(wrong, false, false);
            }
            Samples.madeIsAllThree(hand).mark(0, false, true).mark(0, true, true);
            hand.mark(4094, true, true).write(-4).mark(4094, false, true);
            Samples.madeIsAllThree(hand);
        });
        CHECK.sentence("Promise 8", "or it is so", () -> {
            Hand hand = Samples.allThree(CHECK);
            for (int offset : new int[] {0, 4, 6, 8, 16}) {
                hand.mark(offset, true, false);
            }
            for (int offset : new int[] {2, 10, 12, 14, 18, 20, 4094}) {
                hand.mark(offset, false, false);
            }
            Samples.madeIsAllThree(hand);
        });
        CHECK.sentence("Promise 8", "There is a MARK at an offset", () ->
            // It needs no TEXT, and may lie behind its BYTES: that is not GOOD, but not refused.
            fresh().mark(4094, true, true).mark(4094, true, false).segment(0, 0, 0).bytes(0, 0, 0).marks(0).write(-4)
                .unmark(4094).mark(4094, false, false).write(152).read().told(3, 1));
    }

    private static void eachOffset() {
        for (int first = 0; first < 4096; first += 240) {
            Hand hand = fresh();
            for (int offset = first; offset < Math.min(4096, first + 240); offset += 2) {
                hand.mark(offset, true, true).mark(offset, true, false);
                hand.mark(offset, false, true).mark(offset, false, false);
            }
        }
        for (int offset = 0; offset < 4096; offset += 62) {
            // Each MARK is its own: one taken away from all of them leaves the others.
            Hand hand = Samples.longSegments(CHECK, 4096, 0, 0, true).unmark(offset);
            hand.entry(Samples.LONG_TEXT + (offset + 2) % 4096).write(180 + 4096 + 284).read().told(3, 2047);
            hand.marked(Samples.LONG_TEXT + offset, 0).marked(Samples.LONG_TEXT + (offset + 2) % 4096, 2);
        }
    }
}
