/** One object under test: each call comes with the answer that is due, and none comes after the 512th. */
final class Hand {
    static final int CALLS = 512;
    static final int NONE = -1;

    private final Check check;
    private final ImageFile x = new ImageFile();
    private int calls;

    Hand(Check check) {
        this.check = check;
    }

    int calls() {
        return calls;
    }

    private Hand count(String call) {
        calls++;
        if (calls > CALLS) {
            check.yes("call " + calls + ", " + call + ", is one that the document leaves free; the test", false);
        }
        return this;
    }

    private Hand is(String call, long got, long due) {
        check.due(call, got, due);
        return count(call);
    }

    private Hand is(String call, boolean got, boolean due) {
        check.due(call, got, due);
        return count(call);
    }

    Hand clear() {
        x.clear();
        return count("clear()");
    }

    Hand entry(int address) {
        x.entry(address);
        return count("entry()");
    }

    Hand keep() {
        x.keep();
        return count("keep()");
    }

    Hand page(int power, boolean due) {
        return is("page(" + power + ")", x.page(power), due);
    }

    Hand page(int power) {
        return page(power, true);
    }

    Hand segment(int s, int address, int more, boolean due) {
        return is("segment(" + s + ", " + address + ", " + more + ")", x.segment(s, address, more), due);
    }

    Hand segment(int s, int address, int more) {
        return segment(s, address, more, true);
    }

    Hand drop(int s, boolean due) {
        return is("drop(" + s + ")", x.drop(s), due);
    }

    Hand put(int s, int n, long eight, boolean due) {
        return is("put(" + s + ", " + n + ", " + Long.toHexString(eight) + ")", x.put(s, n, eight), due);
    }

    /** Puts bytes behind a segment's, eight a call. */
    Hand bytes(int s, int... bytes) {
        RawFile raw = RawFile.ofSize(bytes.length).bytes(0, bytes);
        for (int k = 0; k < bytes.length; k += 8) {
            int n = Math.min(8, bytes.length - k);
            put(s, n, raw.highest(k, n), true);
        }
        return this;
    }

    Hand mark(int offset, boolean on, boolean due) {
        return is("mark(" + offset + ", " + on + ")", x.mark(offset, on), due);
    }

    Hand marks(int... offsets) {
        for (int offset : offsets) {
            mark(offset, true, true);
        }
        return this;
    }

    Hand unmark(int offset) {
        return mark(offset, false, true);
    }

    Hand write(int due) {
        return is("write()", x.write(), due);
    }

    Hand size(int due) {
        return is("size()", x.size(), due);
    }

    Hand byteAt(int k, int due) {
        return is("byteAt(" + k + ")", x.byteAt(k), due);
    }

    /** U4 of the FILE. */
    Hand u4At(int k, long due) {
        for (int i = 0; i < 4; i++) {
            byteAt(k + i, (int) (due >>> 8 * i) & 255);
        }
        return this;
    }

    Hand feed(int n, long eight, boolean due) {
        return is("feed(" + n + ", " + Long.toHexString(eight) + ")", x.feed(n, eight), due);
    }

    /** Feeds a whole file, eight bytes a call. */
    Hand feed(RawFile raw) {
        for (int k = 0; k < raw.bytes.length; k += 8) {
            int n = Math.min(8, raw.bytes.length - k);
            feed(n, raw.highest(k, n), true);
        }
        return this;
    }

    Hand cut(int n, boolean due) {
        return is("cut(" + n + ")", x.cut(n), due);
    }

    Hand cut(int n) {
        return cut(n, true);
    }

    Hand spoil(int k, int b, int due) {
        return is("spoil(" + k + ", " + b + ")", x.spoil(k, b), due);
    }

    /** Alters a byte that is there, whatever it was. */
    Hand spoil(int k, int b) {
        int was = x.spoil(k, b);
        check.yes("spoil(" + k + ", " + b + ") finds a byte", was >= 0 && was <= 255);
        return count("spoil()");
    }

    Hand spoilU2(int k, int number) {
        return spoil(k, number & 255).spoil(k + 1, number >>> 8 & 255);
    }

    Hand spoilU4(int k, long number) {
        return spoilU2(k, (int) number).spoilU2(k + 2, (int) (number >>> 16));
    }

    /** The FILE byte by byte. */
    Hand fileIs(RawFile raw) {
        size(raw.bytes.length);
        for (int k = 0; k < raw.bytes.length; k++) {
            byteAt(k, raw.bytes[k] & 255);
        }
        return byteAt(raw.bytes.length, NONE);
    }

    /** Reads without a fault. */
    Hand read() {
        return read(0, NONE);
    }

    Hand read(int fault, int place) {
        return is("read()", x.read(), fault).place(place);
    }

    /** Reads with a fault whose place isn't looked at. */
    Hand readAny(int fault) {
        return is("read()", x.read(), fault);
    }

    Hand place(int due) {
        return is("place()", x.place(), due);
    }

    Hand about(int s, int what, int due) {
        return is("about(" + s + ", " + what + ")", x.about(s, what), due);
    }

    /** A segment of the READ image that is there. */
    Hand hasSegment(int s, int address, int bytes, int more) {
        return about(s, 0, 1).about(s, 1, address).about(s, 2, bytes).about(s, 3, more);
    }

    /** A segment of the READ image that is not there. */
    Hand hasNot(int s) {
        return about(s, 0, 0).about(s, 1, NONE).about(s, 2, NONE).about(s, 3, NONE);
    }

    Hand told(int what, long due) {
        return is("told(" + what + ")", x.told(what), (int) due);
    }

    Hand byteIn(int address, int due) {
        return is("byteIn(" + address + ")", x.byteIn(address), due);
    }

    Hand wordIn(int address, int due) {
        return is("wordIn(" + address + ")", x.wordIn(address), due);
    }

    Hand rights(int address, int due) {
        return is("rights(" + address + ")", x.rights(address), due);
    }

    Hand marked(int address, int due) {
        return is("marked(" + address + ")", x.marked(address), due);
    }

    Hand markBelow(int address, int due) {
        return is("markBelow(" + address + ")", x.markBelow(address), due);
    }
}
