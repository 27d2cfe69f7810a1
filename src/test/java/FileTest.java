/** Promises 10 to 14: size, byteAt, feed, cut, spoil. */
public final class FileTest {
    private static final Check CHECK = new Check("FileTest");

    public static void main(String[] args) {
        feed();
        feedRefused();
        feedUpToLimit();
        byteAt();
        cut();
        spoil();
        writeReplaces();
        CHECK.finish();
    }

    private static void feed() {
        ImageFile x = new ImageFile();
        int size = 0;
        for (int n = 1; n <= 8; n++) {
            CHECK.due("feed(" + n + ")", x.feed(n, 0x80ff017f00fe1234L), true);
            for (int i = 0; i < n; i++) {
                CHECK.due("byteAt(" + (size + i) + ")", x.byteAt(size + i), 0xff & (int) (0x80ff017f00fe1234L >>> 56 - 8 * i));
            }
            size += n;
            CHECK.due("size()", x.size(), size);
            CHECK.due("byteAt() at the end", x.byteAt(size), -1);
        }
    }

    private static void feedRefused() {
        ImageFile x = new ImageFile();
        x.feed(3, -1);
        for (int wrong : new int[] {0, -1, 9, Integer.MIN_VALUE, Integer.MAX_VALUE}) {
            CHECK.due("feed(" + wrong + ")", x.feed(wrong, 5), false);
            CHECK.due("size()", x.size(), 3);
        }
    }

    private static void feedUpToLimit() {
        ImageFile x = Samples.longest();
        x.write();
        CHECK.due("feed(1) behind 16,384", x.feed(1, 0), false);
        CHECK.due("cut(16384)", x.cut(16384), true);
        CHECK.due("cut(16385)", x.cut(16385), false);
        CHECK.due("cut(16379)", x.cut(16379), true);
        CHECK.due("feed(6) up to 16,385", x.feed(6, -1), false);
        CHECK.due("size()", x.size(), 16379);
        CHECK.due("byteAt() of what was refused", x.byteAt(16379), -1);
        CHECK.due("feed(5) up to 16,384", x.feed(5, 0x0102030405060708L), true);
        CHECK.due("size()", x.size(), 16384);
        CHECK.due("byteAt(16383)", x.byteAt(16383), 5);
        CHECK.due("byteAt(16384)", x.byteAt(16384), -1);
        CHECK.due("feed(1) behind 16,384", x.feed(1, 0), false);
        CHECK.due("feed(8) behind 16,384", x.feed(8, 0), false);
    }

    private static void byteAt() {
        ImageFile x = new ImageFile();
        CHECK.due("byteAt(0) of none", x.byteAt(0), -1);
        x.feed(2, Samples.highest(255, 128));
        CHECK.due("byteAt(0)", x.byteAt(0), 255);
        CHECK.due("byteAt(1)", x.byteAt(1), 128);
        for (int wrong : new int[] {-1, 2, 16384, Integer.MIN_VALUE, Integer.MAX_VALUE}) {
            CHECK.due("byteAt(" + wrong + ")", x.byteAt(wrong), -1);
        }
    }

    private static void cut() {
        ImageFile x = new ImageFile();
        CHECK.due("cut(0) of none", x.cut(0), true);
        CHECK.due("cut(1) of none", x.cut(1), false);
        x.feed(8, 0x0102030405060708L);
        for (int wrong : new int[] {-1, 9, Integer.MIN_VALUE, Integer.MAX_VALUE}) {
            CHECK.due("cut(" + wrong + ")", x.cut(wrong), false);
            CHECK.due("size()", x.size(), 8);
        }
        CHECK.due("cut(8)", x.cut(8), true);
        CHECK.due("size()", x.size(), 8);
        CHECK.due("cut(3)", x.cut(3), true);
        CHECK.due("size()", x.size(), 3);
        CHECK.due("byteAt(2)", x.byteAt(2), 3);
        CHECK.due("byteAt(3)", x.byteAt(3), -1);
        CHECK.due("spoil(3) of what is cut", x.spoil(3, 1), -1);
        CHECK.due("cut(4) of three", x.cut(4), false);
        x.feed(1, Samples.highest(99));
        CHECK.due("byteAt(3) after feed", x.byteAt(3), 99);
        CHECK.due("cut(0)", x.cut(0), true);
        CHECK.due("size()", x.size(), 0);
        CHECK.due("byteAt(0)", x.byteAt(0), -1);
    }

    private static void spoil() {
        ImageFile x = new ImageFile();
        CHECK.due("spoil(0) of none", x.spoil(0, 1), -1);
        CHECK.due("size()", x.size(), 0);
        x.feed(4, 0xfffefd0000000000L);
        CHECK.due("spoil(0, 256)", x.spoil(0, 256), 255);
        CHECK.due("byteAt(0)", x.byteAt(0), 0);
        CHECK.due("spoil(1, -1)", x.spoil(1, -1), 254);
        CHECK.due("byteAt(1)", x.byteAt(1), 255);
        CHECK.due("spoil(3, 0x12345680)", x.spoil(3, 0x12345680), 0);
        CHECK.due("byteAt(3)", x.byteAt(3), 0x80);
        CHECK.due("spoil(3, 128): what it was", x.spoil(3, 128), 128);
        CHECK.due("byteAt(2): not touched", x.byteAt(2), 253);
        for (int wrong : new int[] {-1, 4, Integer.MIN_VALUE, Integer.MAX_VALUE}) {
            CHECK.due("spoil(" + wrong + ", 1)", x.spoil(wrong, 1), -1);
        }
        CHECK.due("size()", x.size(), 4);
    }

    private static void writeReplaces() {
        ImageFile x = Samples.textAt(64);
        for (int i = 0; i < 40; i++) {
            x.feed(8, -1);
        }
        CHECK.due("size() before write()", x.size(), 320);
        CHECK.due("write()", x.write(), 156);
        CHECK.due("size()", x.size(), 156);
        CHECK.due("byteAt(0)", x.byteAt(0), 127);
        CHECK.due("byteAt(7)", x.byteAt(7), 0);
        CHECK.due("byteAt(122): between TEXT and NOTE", x.byteAt(122), 0);
        CHECK.due("byteAt(123): between TEXT and NOTE", x.byteAt(123), 0);
        CHECK.due("byteAt(155): the end of the NOTE", x.byteAt(155), 0);
        CHECK.due("byteAt(156)", x.byteAt(156), -1);
        CHECK.due("read()", x.read(), 0);
    }
}
