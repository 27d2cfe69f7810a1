/** Promises 17 to 24: keep, about, told, byteIn, wordIn, rights, marked, markBelow. */
public final class LookingTest {
    private static final Check CHECK = new Check("LookingTest");
    private static final int NONE = -1;
    private static final int[] FAR = {-1, -4, -4096, 131072, Integer.MIN_VALUE, Integer.MIN_VALUE + 4096,
        Integer.MAX_VALUE, Integer.MAX_VALUE - 2, Integer.MAX_VALUE - 4095};

    public static void main(String[] args) {
        keep();
        about();
        told();
        byteIn();
        wordIn();
        rights();
        marked();
        markBelow();
        CHECK.finish();
    }

    private static Hand fresh() {
        return new Hand(CHECK);
    }

    private static Hand readBack() {
        return Samples.allThree(CHECK).write(Samples.SIZE).read();
    }

    /** TEXT at address 1, CONST at 0, and DATA up to the last address there is, 131,071. */
    private static Hand atTheEnds() {
        return fresh().segment(0, 1, 0).bytes(0, 0, 0, 255, 255).marks(0).entry(1).segment(1, 0, 0).bytes(1, 7)
            .segment(2, 131066, 4).bytes(2, 0xd0, 0xd1).write(180 + 8 + 32).read();
    }

    // Promise 17

    private static void keep() {
        CHECK.sentence("Promise 17", "The MADE image is the READ one.", () -> {
            Hand hand = fresh().feed(Samples.fileOfAllThree()).read();
            hand.segment(1, 9, 0).bytes(1, 1, 2, 3, 4, 5).marks(40, 4094).entry(77).page(7).cut(0).keep();
            Samples.readIsAllThree(hand.write(Samples.SIZE).fileIs(Samples.fileOfAllThree()));
        });
        CHECK.sentence("Promise 17", "The MADE image is the READ one", () -> {
            // As it is now: what is done to one of them later doesn't touch the other.
            Hand hand = readBack().keep();
            hand.put(2, 8, -1, true).unmark(16).segment(0, 0, 0).entry(5).page(7).drop(1, true);
            Samples.readIsAllThree(hand).clear();
            Samples.readIsAllThree(hand).byteIn(4096, 0x13).byteIn(8193, 0xd1);
            Samples.madeIsAllThree(hand.keep());
            // And a fault in reading leaves it, too.
            Samples.madeIsAllThree(hand.spoil(0, 0).read(2, 0).keep());
        });
        CHECK.sentence("Promise 17", "the READ one", () -> {
            // The empty one: ENTRY 0, PAGE 1, no segment and no MARK.
            Hand hand = Samples.allThree(CHECK).page(4).keep().write(-1).drop(0, false).drop(1, false).drop(2, false);
            hand.mark(0, false, false).mark(16, false, false).segment(0, 64, 0).bytes(0, 0, 0).marks(0).write(-5);
            hand.segment(0, 0, 0).write(152).u4At(80, 1);
            // The full one.
            Samples.longSegments(CHECK, 4096, 4096, 4096, true).clear().keep().write(180 + 3 * 4096 + 284)
                .mark(4094, true, false).put(0, 1, 0, false).put(1, 1, 0, false).put(2, 1, 0, false);
        });
        CHECK.sentence("Terms", "(its PAGE: the greatest last number of its segments)", () -> {
            RawFile raw = Samples.fileOfAllThree().u4(Samples.ROW_CONST + 28, 4);
            Hand hand = fresh().feed(raw).read().told(1, 4).keep().write(Samples.SIZE);
            hand.u4At(Samples.ROW_TEXT + 28, 4).u4At(Samples.ROW_CONST + 28, 4).u4At(Samples.ROW_DATA + 28, 4);
            hand.u4At(Samples.ROW_DATA + 4, 204).byteAt(203, 0).byteAt(204, 0xd0).byteAt(205, 0xd1).read();
        });
    }

    // Promise 18

    private static void about() {
        CHECK.sentence("Promise 18", "1 if it is there, else 0 (what 0), ADDRESS (1), how many BYTES (2), MORE (3).", () -> {
            readBack().hasSegment(0, 4096, 20, 0).hasSegment(1, 4116, 3, 0).hasSegment(2, 8192, 2, 5);
            Samples.textAt(CHECK, 0).segment(2, 98304, 32768).write(188).read().hasSegment(0, 0, 6, 0).hasNot(1)
                .hasSegment(2, 98304, 0, 32768);
            Samples.textAt(CHECK, 0).segment(1, 131071, 0).write(188).read().hasSegment(1, 131071, 0, 0).hasNot(2);
            Samples.longSegments(CHECK, 4096, 4096, 4096, true).hasSegment(0, 179, 4096, 0)
                .hasSegment(1, 8372, 4096, 0).hasSegment(2, 16563, 4096, 0);
        });
        CHECK.sentence("Promise 18", "NONE when there is no such segment or what", () -> {
            Hand hand = readBack();
            for (int i = 0; i <= 3; i++) {
                hand.about(-1, i, NONE).about(3, i, NONE).about(4, i, NONE);
                hand.about(Integer.MIN_VALUE, i, NONE).about(Integer.MAX_VALUE, i, NONE);
            }
            for (int s = 0; s <= 2; s++) {
                hand.about(s, -1, NONE).about(s, 4, NONE).about(s, 5, NONE);
                hand.about(s, Integer.MIN_VALUE, NONE).about(s, Integer.MAX_VALUE, NONE);
            }
            hand.about(3, 4, NONE).about(-1, -1, NONE);
            fresh().about(-1, 0, NONE).about(3, 0, NONE).about(0, -1, NONE).about(0, 4, NONE);
        });
        CHECK.sentence("Promise 18", "or, but for 0, it is not there", () -> {
            fresh().hasNot(0).hasNot(1).hasNot(2);
            Samples.textAt(CHECK, 64).write(156).read().hasNot(1).hasNot(2).about(1, -1, NONE).about(2, 4, NONE);
            // The MADE one's segments are no matter.
            readBack().drop(1, true).hasSegment(1, 4116, 3, 0).write(204).read().hasNot(1).segment(1, 0, 0).hasNot(1);
        });
    }

    // Promise 19

    private static void told() {
        CHECK.sentence("Promise 19", "ENTRY (0), PAGE (1), THE SUM (2), how many MARKS (3), how many of them SHORT (4)", () -> {
            Hand hand = readBack().told(0, 4100).told(1, 1).told(2, Samples.sumOfAllThree()).told(3, 5).told(4, 2);
            hand.entry(4096).unmark(16).page(2);
            hand.told(0, 4100).told(1, 1).told(2, Samples.sumOfAllThree()).told(3, 5).told(4, 2).write(Samples.SIZE).read();
            hand.told(0, 4096).told(1, 4).told(3, 4).told(4, 2).told(2, RawFile.sum(4096, 4096, 0, Samples.TEXT,
                4116, 0, Samples.CONST, 8192, 5, Samples.DATA, new int[] {0b00011101, 0}));
            hand.unmark(4).unmark(6).write(Samples.SIZE).read().told(3, 2).told(4, 0);
        });
        CHECK.sentence("Promise 19", "how many of them SHORT (4)", () -> {
            // None, and as many as can be.
            fresh().told(3, 0).told(4, 0);
            Samples.longSegments(CHECK, 4096, 0, 0, true).told(3, 2048).told(4, 2048).told(0, 179).told(1, 1);
            Samples.fullFile(CHECK).read().told(0, 180).told(1, 4096).told(3, 2048).told(4, 2048);
        });
        CHECK.sentence("Promise 19", "0 for another what", () -> {
            Hand hand = readBack().told(-1, 0).told(5, 0).told(6, 0);
            for (int other : Samples.FAR) {
                hand.told(other, 0);
            }
        });
        CHECK.sentence("Promise 19", "(THE SUM as an int.)", () -> {
            // One of two sums is above 2,147,483,647: a negative int.
            for (int more = 0, above = 0; more < 40 || above == 0; more++) {
                long sum = RawFile.sum(64, 64, 0, Samples.SIX, 200, more, new int[] {5});
                above += sum > Integer.MAX_VALUE ? 1 : 0;
                Samples.textAt(CHECK, 64).segment(2, 200, more).write(188).read().told(2, sum);
            }
        });
    }

    // Promise 20

    private static void byteIn() {
        CHECK.sentence("Promise 20", "Memory by the READ image: the byte at an address, 0 .. 255", () -> {
            Hand hand = readBack();
            for (int i = 0; i < 20; i++) {
                hand.byteIn(4096 + i, Samples.TEXT[i]);
            }
            for (int i = 0; i < 3; i++) {
                hand.byteIn(4116 + i, Samples.CONST[i]);
            }
            for (int i = 0; i < 7; i++) {
                hand.byteIn(8192 + i, i < 2 ? Samples.DATA[i] : 0);
            }
            for (int b = 0; b < 256; b++) {
                Samples.textAt(CHECK, 64).segment(1, 0, 0).bytes(1, b).write(188).read().byteIn(0, b);
            }
        });
        CHECK.sentence("Promise 20", "NONE where no segment is", () -> {
            Hand hand = readBack().byteIn(0, NONE).byteIn(4095, NONE).byteIn(4096, 0x13).byteIn(4118, 0xc2);
            hand.byteIn(4119, NONE).byteIn(8191, NONE).byteIn(8192, 0xd0).byteIn(8198, 0).byteIn(8199, NONE);
            for (int far : FAR) {
                hand.byteIn(far, NONE);
            }
            // One without bytes is nowhere.
            Samples.textAt(CHECK, 64).segment(1, 200, 0).segment(2, 300, 0).write(220).read()
                .byteIn(199, NONE).byteIn(200, NONE).byteIn(201, NONE).byteIn(300, NONE);
        });
        CHECK.sentence("Promise 20", "the byte at an address", () -> {
            atTheEnds().byteIn(0, 7).byteIn(-1, NONE).byteIn(131065, NONE).byteIn(131066, 0xd0).byteIn(131067, 0xd1)
                .byteIn(131068, 0).byteIn(131071, 0).byteIn(131072, NONE);
            Samples.longSegments(CHECK, 4096, 4096, 4096, true).byteIn(178, NONE).byteIn(179, 0).byteIn(4274, 0)
                .byteIn(4275, NONE).byteIn(8371, NONE).byteIn(8372, 0).byteIn(12467, 0).byteIn(12468, NONE)
                .segment(2, 94208, 32768).write(12752).read().byteIn(94207, NONE).byteIn(94208, 0).byteIn(98303, 0)
                .byteIn(98304, 0).byteIn(131071, 0).byteIn(131072, NONE);
        });
    }

    // Promise 21

    private static void wordIn() {
        CHECK.sentence("Promise 21", "The four bytes from an address on, the lowest first, as an int", () -> {
            readBack().wordIn(4096, 0x03020113).wordIn(4097, 0x41030201).wordIn(4112, 0x0b0a09ff)
                .wordIn(4114, 0xc1c00b0a).wordIn(4115, 0xc2c1c00b).wordIn(8192, 0xd1d0).wordIn(8193, 0xd1).wordIn(8195, 0);
            atTheEnds().wordIn(0, 0xff000007).wordIn(1, 0xffff0000).wordIn(131066, 0xd1d0).wordIn(131068, 0);
        });
        CHECK.sentence("Promise 21", "NONE when one of them is in no segment", () -> {
            // The first of them, or the last of them, is the one.
            Hand hand = readBack().wordIn(4095, NONE).wordIn(4093, NONE).wordIn(4092, NONE).wordIn(4116, NONE);
            hand.wordIn(4118, NONE).wordIn(4119, NONE).wordIn(8188, NONE).wordIn(8189, NONE).wordIn(8191, NONE);
            hand.wordIn(8196, NONE).wordIn(8198, NONE).wordIn(8199, NONE);
            for (int far : FAR) {
                hand.wordIn(far, NONE);
            }
            // One between two segments.
            Samples.textAt(CHECK, 64).segment(1, 71, 0).bytes(1, 1, 1, 1).write(192).read().wordIn(66, 0x04410302)
                .wordIn(67, NONE).wordIn(68, NONE).wordIn(70, NONE).wordIn(71, NONE);
        });
        CHECK.sentence("Promise 21", "from an address on", () -> {
            // Beyond either end of the addresses, and by no wrap-around from 2 to the 31 or 32.
            Hand hand = atTheEnds().wordIn(131069, NONE).wordIn(131070, NONE).wordIn(131071, NONE).wordIn(131072, NONE);
            hand.wordIn(-1, NONE).wordIn(-2, NONE).wordIn(-3, NONE).wordIn(-4, NONE);
            hand.wordIn(Integer.MAX_VALUE, NONE).wordIn(Integer.MAX_VALUE - 3, NONE).wordIn(Integer.MIN_VALUE, NONE);
        });
        CHECK.sentence("Promise 21", "(They may be -1, too.)", () ->
            Samples.textAt(CHECK, 64).segment(1, 200, 0).bytes(1, 255, 255, 255, 255, 255).write(192).read()
                .wordIn(200, -1).wordIn(201, -1).wordIn(202, NONE).byteIn(204, 255).byteIn(205, NONE));
    }

    // Promise 22

    private static void rights() {
        CHECK.sentence("Promise 22", "The RIGHTS at an address", () -> {
            readBack().rights(4096, 5).rights(4115, 5).rights(4116, 4).rights(4118, 4).rights(8192, 6).rights(8193, 6)
                .rights(8194, 6).rights(8198, 6);
            atTheEnds().rights(0, 4).rights(1, 5).rights(4, 5).rights(131066, 6).rights(131071, 6);
        });
        CHECK.sentence("Promise 22", "0 where no segment is", () -> {
            fresh().rights(0, 0).rights(131071, 0).rights(-1, 0);
            Hand hand = readBack().rights(0, 0).rights(4095, 0).rights(4119, 0).rights(8191, 0).rights(8199, 0);
            for (int far : FAR) {
                hand.rights(far, 0);
            }
            atTheEnds().rights(-1, 0).rights(5, 0).rights(131065, 0).rights(131072, 0);
            Samples.textAt(CHECK, 64).segment(1, 66, 0).segment(2, 300, 0).write(220).read().rights(66, 5).rights(300, 0);
        });
    }

    // Promise 23

    private static void marked() {
        CHECK.sentence("Promise 23", "How many bytes the instruction has whose MARK is at an address (2, 4)", () -> {
            int[] due = {4, 0, 0, 0, 2, 0, 2, 0, 4, 0, 0, 0, 0, 0, 0, 0, 4, 0, 0, 0, 0};
            Hand hand = readBack();
            for (int i = 0; i < due.length; i++) {
                hand.marked(4096 + i, due[i]);
            }
            atTheEnds().marked(1, 2).marked(0, 0).marked(2, 0).marked(3, 0);
            // The last address that can have one, of four bytes and of two.
            fresh().segment(0, 131068, 0).bytes(0, 3, 0, 2, 0).marks(0).entry(131068).write(152).read().marked(131068, 4)
                .marked(131070, 0).unmark(0).marks(2).entry(131070).write(152).read().marked(131068, 0).marked(131070, 2);
        });
        CHECK.sentence("Promise 23", "0 when there is no MARK", () -> {
            fresh().marked(0, 0).marked(-1, 0).marked(4094, 0);
            Hand hand = readBack().marked(0, 0).marked(4, 0).marked(4094, 0).marked(4095, 0).marked(4116, 0);
            hand.marked(8192, 0).marked(4096 + 4094, 0).marked(4096 + 4096, 0);
            for (int far : FAR) {
                hand.marked(far, 0);
            }
            // By a wrap-around these would be offsets with a MARK.
            hand.marked(Integer.MIN_VALUE + 4096, 0).marked(4096 + (1 << 16), 0).marked(4096 + (1 << 17), 0);
            Samples.longSegments(CHECK, 4096, 0, 0, true).marked(177, 0).marked(178, 0).marked(179, 2).marked(180, 0)
                .marked(179 + 4094, 2).marked(179 + 4095, 0).marked(179 + 4096, 0);
        });
    }

    // Promise 24

    private static void markBelow() {
        CHECK.sentence("Promise 24", "The address of the last MARK that is not above an address", () -> {
            int[] due = {0, 0, 0, 0, 4, 4, 6, 6, 8, 8, 8, 8, 8, 8, 8, 8, 16, 16, 16, 16, 16, 16};
            Hand hand = readBack();
            for (int i = 0; i < due.length; i++) {
                hand.markBelow(4096 + i, 4096 + due[i]);
            }
            // Above all of them, however far.
            for (int above : new int[] {8191, 8192, 8193, 131071, 131072, 1 << 30, Integer.MAX_VALUE}) {
                hand.markBelow(above, 4112);
            }
            Samples.longSegments(CHECK, 4096, 0, 0, true).markBelow(179, 179).markBelow(180, 179).markBelow(181, 181)
                .markBelow(4272, 4271).markBelow(4273, 4273).markBelow(4274, 4273).markBelow(4275, 4273)
                .markBelow(4276, 4273).markBelow(131071, 4273).markBelow(Integer.MAX_VALUE, 4273);
            // The first MARK alone, far below.
            Samples.longSegments(CHECK, 4096, 0, 0, false).markBelow(4273, 179).markBelow(Integer.MAX_VALUE, 179);
        });
        CHECK.sentence("Promise 24", "NONE when there is none", () -> {
            fresh().markBelow(0, NONE).markBelow(-1, NONE).markBelow(131071, NONE).markBelow(Integer.MAX_VALUE, NONE);
            Hand hand = readBack().markBelow(4095, NONE).markBelow(0, NONE).markBelow(-1, NONE).markBelow(-4096, NONE);
            hand.markBelow(Integer.MIN_VALUE, NONE).markBelow(Integer.MIN_VALUE + 4096, NONE).markBelow(4096, 4096);
            hand.unmark(0).write(Samples.SIZE).read().markBelow(4099, NONE).markBelow(4096, NONE).markBelow(4100, 4100);
            atTheEnds().markBelow(0, NONE).markBelow(1, 1).markBelow(131071, 1);
            fresh().segment(0, 0, 0).bytes(0, 0, 0).marks(0).write(152).read().markBelow(-1, NONE).markBelow(0, 0)
                .markBelow(1, 0);
            fresh().segment(0, 131070, 0).bytes(0, 0, 0).marks(0).entry(131070).write(152).read().markBelow(131069, NONE)
                .markBelow(131070, 131070).markBelow(131071, 131070).markBelow(131072, 131070);
        });
    }
}
