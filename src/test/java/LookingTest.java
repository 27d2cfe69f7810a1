/** Promises 17 to 24: keep, about, told, byteIn, wordIn, rights, marked, markBelow. */
public final class LookingTest {
    private static final Check CHECK = new Check("LookingTest");
    private static final int[] FAR = {-1, -4096, 131072, Integer.MIN_VALUE, Integer.MAX_VALUE, Integer.MAX_VALUE - 2};

    public static void main(String[] args) {
        keep();
        keepOfEmpty();
        about();
        told();
        byteIn();
        wordIn();
        rights();
        marked();
        markBelow();
        atTheEnds();
        CHECK.finish();
    }

    private static ImageFile readBack() {
        ImageFile x = Samples.allThree();
        x.write();
        CHECK.due("read()", x.read(), 0);
        return x;
    }

    private static void keep() {
        ImageFile x = Samples.fileOfAllThree().u4(Samples.ROW_CONST + 28, 4).fed();
        CHECK.due("read()", x.read(), 0);
        x.segment(1, 9, 0);
        x.mark(40, true);
        x.entry(77);
        x.cut(0);
        x.keep();
        RawFile want = Samples.fileOfAllThree();
        want.u4(Samples.ROW_TEXT + 28, 4).u4(Samples.ROW_CONST + 28, 4).u4(Samples.ROW_DATA + 28, 4);
        want.u4(Samples.ROW_DATA + 4, 204).bytes(203, 0, 0xd0, 0xd1);
        CHECK.due("write() of what was kept", x.write(), Samples.SIZE);
        for (int k = 0; k < Samples.SIZE; k++) {
            CHECK.due("byteAt(" + k + ") of what was kept", x.byteAt(k), want.bytes[k] & 255);
        }
        x.put(2, 8, -1);
        x.mark(16, false);
        x.segment(0, 0, 0);
        x.entry(5);
        x.page(7);
        CHECK.due("about(2, 2): the READ image is apart", x.about(2, 2), 2);
        CHECK.due("told(3): the READ image is apart", x.told(3), 5);
        CHECK.due("about(0, 1): the READ image is apart", x.about(0, 1), 4096);
        CHECK.due("told(0): the READ image is apart", x.told(0), 4100);
        CHECK.due("told(1): the READ image is apart", x.told(1), 4);
        x.clear();
        CHECK.due("about(0, 0) after clear()", x.about(0, 0), 1);
        CHECK.due("byteIn(4096) after clear()", x.byteIn(4096), 0x13);
    }

    private static void keepOfEmpty() {
        ImageFile x = Samples.textAt(64);
        x.page(4);
        x.keep();
        CHECK.due("write() of an empty image", x.write(), -1);
        CHECK.due("mark(0, false)", x.mark(0, false), false);
        CHECK.due("drop(0)", x.drop(0), false);
        x.segment(0, 64, 0);
        x.put(0, 2, 0);
        x.mark(0, true);
        CHECK.due("write(): ENTRY is 0", x.write(), -5);
        x.entry(64);
        CHECK.due("write(): PAGE is 1", x.write(), 116 + 4 + 32);
        CHECK.due("byteAt(80): PAGE is 1", x.byteAt(80), 1);
    }

    private static void about() {
        ImageFile x = readBack();
        int[][] due = {{1, 4096, 20, 0}, {1, 4116, 3, 0}, {1, 8192, 2, 5}};
        for (int s = 0; s < 3; s++) {
            for (int what = 0; what < 4; what++) {
                CHECK.due("about(" + s + ", " + what + ")", x.about(s, what), due[s][what]);
            }
            for (int wrong : new int[] {-1, 4, Integer.MIN_VALUE, Integer.MAX_VALUE}) {
                CHECK.due("about(" + s + ", " + wrong + ")", x.about(s, wrong), -1);
                CHECK.due("about(" + wrong + ", 0)", x.about(wrong, 0), -1);
                CHECK.due("about(" + wrong + ", 1)", x.about(wrong, 1), -1);
            }
            CHECK.due("about(3, " + s + ")", x.about(3, s), -1);
        }
        x.drop(1);
        CHECK.due("about(1, 0): the MADE image is apart", x.about(1, 0), 1);
        x.write();
        x.read();
        CHECK.due("about(1, 0) of what is not there", x.about(1, 0), 0);
        for (int what : new int[] {-1, 1, 2, 3, 4}) {
            CHECK.due("about(1, " + what + ") of what is not there", x.about(1, what), -1);
        }
    }

    private static void told() {
        ImageFile x = readBack();
        CHECK.due("told(0)", x.told(0), 4100);
        CHECK.due("told(1)", x.told(1), 1);
        CHECK.due("told(2)", x.told(2), (int) Samples.sumOfAllThree());
        CHECK.due("told(3)", x.told(3), 5);
        CHECK.due("told(4)", x.told(4), 2);
        for (int wrong : new int[] {-1, 5, 6, Integer.MIN_VALUE, Integer.MAX_VALUE}) {
            CHECK.due("told(" + wrong + ")", x.told(wrong), 0);
        }
        x.entry(4096);
        x.mark(16, false);
        CHECK.due("told(0): the MADE image is apart", x.told(0), 4100);
        CHECK.due("told(3): the MADE image is apart", x.told(3), 5);
        x.write();
        x.read();
        CHECK.due("told(0)", x.told(0), 4096);
        CHECK.due("told(3)", x.told(3), 4);
        CHECK.due("told(4)", x.told(4), 2);
        int[] marks = {0b00011101, 0};
        CHECK.due("told(2)", x.told(2), (int) RawFile.sum(4096, 4096, 0, Samples.TEXT,
            4116, 0, Samples.CONST, 8192, 5, Samples.DATA, marks));
    }

    private static void byteIn() {
        ImageFile x = readBack();
        for (int i = 0; i < 20; i++) {
            CHECK.due("byteIn() of TEXT " + i, x.byteIn(4096 + i), Samples.TEXT[i]);
        }
        for (int i = 0; i < 3; i++) {
            CHECK.due("byteIn() of CONST " + i, x.byteIn(4116 + i), Samples.CONST[i]);
        }
        for (int i = 0; i < 7; i++) {
            CHECK.due("byteIn() of DATA " + i, x.byteIn(8192 + i), i < 2 ? Samples.DATA[i] : 0);
        }
        for (int nowhere : new int[] {0, 4095, 4119, 8191, 8199}) {
            CHECK.due("byteIn(" + nowhere + ")", x.byteIn(nowhere), -1);
        }
        for (int far : FAR) {
            CHECK.due("byteIn(" + far + ")", x.byteIn(far), -1);
        }
    }

    private static void wordIn() {
        ImageFile x = readBack();
        CHECK.due("wordIn(4096)", x.wordIn(4096), 0x03020113);
        CHECK.due("wordIn(4097)", x.wordIn(4097), 0x41030201);
        CHECK.due("wordIn(4112)", x.wordIn(4112), 0x0b0a09ff);
        CHECK.due("wordIn(4114): TEXT and CONST", x.wordIn(4114), 0xc1c00b0a);
        CHECK.due("wordIn(4115): TEXT and CONST", x.wordIn(4115), 0xc2c1c00b);
        CHECK.due("wordIn(4116): one is nowhere", x.wordIn(4116), -1);
        CHECK.due("wordIn(8192): BYTES and MORE", x.wordIn(8192), 0xd1d0);
        CHECK.due("wordIn(8195)", x.wordIn(8195), 0);
        for (int nowhere : new int[] {4093, 4095, 4118, 4119, 8189, 8191, 8196, 8198, 8199}) {
            CHECK.due("wordIn(" + nowhere + ")", x.wordIn(nowhere), -1);
        }
        for (int far : FAR) {
            CHECK.due("wordIn(" + far + ")", x.wordIn(far), -1);
        }
    }

    private static void rights() {
        ImageFile x = readBack();
        int[][] due = {
            {0, 0}, {4095, 0}, {4096, 5}, {4115, 5}, {4116, 4}, {4118, 4}, {4119, 0},
            {8191, 0}, {8192, 6}, {8193, 6}, {8194, 6}, {8198, 6}, {8199, 0}
        };
        for (int[] d : due) {
            CHECK.due("rights(" + d[0] + ")", x.rights(d[0]), d[1]);
        }
        for (int far : FAR) {
            CHECK.due("rights(" + far + ")", x.rights(far), 0);
        }
    }

    private static void marked() {
        ImageFile x = readBack();
        int[] due = {4, 0, 0, 0, 2, 0, 2, 0, 4, 0, 0, 0, 0, 0, 0, 0, 4, 0, 0, 0, 0};
        for (int i = 0; i < due.length; i++) {
            CHECK.due("marked(" + (4096 + i) + ")", x.marked(4096 + i), due[i]);
        }
        CHECK.due("marked(0)", x.marked(0), 0);
        CHECK.due("marked(4)", x.marked(4), 0);
        CHECK.due("marked(4094)", x.marked(4094), 0);
        CHECK.due("marked(8192)", x.marked(8192), 0);
        for (int far : FAR) {
            CHECK.due("marked(" + far + ")", x.marked(far), 0);
        }
    }

    private static void markBelow() {
        ImageFile x = readBack();
        int[] due = {0, 0, 0, 0, 4, 4, 6, 6, 8, 8, 8, 8, 8, 8, 8, 8, 16, 16, 16, 16, 16, 16};
        for (int i = 0; i < due.length; i++) {
            CHECK.due("markBelow(" + (4096 + i) + ")", x.markBelow(4096 + i), 4096 + due[i]);
        }
        for (int above : new int[] {8191, 8192, 8193, 131071, 131072, Integer.MAX_VALUE}) {
            CHECK.due("markBelow(" + above + ")", x.markBelow(above), 4112);
        }
        for (int below : new int[] {4095, 0, -1, -4096, Integer.MIN_VALUE}) {
            CHECK.due("markBelow(" + below + ")", x.markBelow(below), -1);
        }
        x.mark(0, false);
        x.write();
        x.read();
        CHECK.due("markBelow(4099): no MARK at 0", x.markBelow(4099), -1);
        CHECK.due("markBelow(4100)", x.markBelow(4100), 4100);
    }

    /** Address 0, an odd address of TEXT, and the last address there is. */
    private static void atTheEnds() {
        ImageFile x = new ImageFile();
        x.segment(0, 1, 0);
        x.put(0, 4, Samples.highest(0, 0, 255, 255));
        x.mark(0, true);
        x.entry(1);
        x.segment(1, 0, 0);
        x.put(1, 1, Samples.highest(7));
        x.segment(2, 131068, 4);
        CHECK.yes("write()", x.write() > 0);
        CHECK.due("read()", x.read(), 0);
        CHECK.due("byteIn(0)", x.byteIn(0), 7);
        CHECK.due("wordIn(0)", x.wordIn(0), 0xff000007);
        CHECK.due("wordIn(-1)", x.wordIn(-1), -1);
        CHECK.due("marked(1)", x.marked(1), 2);
        CHECK.due("marked(0)", x.marked(0), 0);
        CHECK.due("markBelow(1)", x.markBelow(1), 1);
        CHECK.due("markBelow(0)", x.markBelow(0), -1);
        CHECK.due("byteIn(131071)", x.byteIn(131071), 0);
        CHECK.due("wordIn(131068)", x.wordIn(131068), 0);
        CHECK.due("wordIn(131069)", x.wordIn(131069), -1);
        CHECK.due("rights(131071)", x.rights(131071), 6);
        x.segment(1, 5, 0);
        x.put(1, 3, -1);
        x.write();
        x.read();
        CHECK.due("wordIn(3): bytes of 255", x.wordIn(3), 0xff07ffff);
        CHECK.due("wordIn(5): bytes of 255", x.wordIn(5), 0xffffff07);
    }
}
