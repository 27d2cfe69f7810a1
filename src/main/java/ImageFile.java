import java.util.Arrays;

/** Executable images for a 32-bit machine as files: made, written, read and looked at as memory. */
public final class ImageFile {
    public static final int NONE = -1;

    private static final int SEGMENTS = 3;
    private static final int TEXT = 0;
    private static final int DATA = 2;
    private static final int[] RIGHTS = {5, 4, 6};
    private static final int RIGHTS_DATA = 6;
    private static final int RIGHTS_NOTE = 4;

    private static final int FILE_LIMIT = 16_384;
    private static final int BYTES_LIMIT = 4_096;
    private static final int MORE_LIMIT = 32_768;
    private static final int MEMORY_LIMIT = 131_072;
    private static final int PAGE_LIMIT = 4_096;
    private static final int PAGE_POWERS = 12;
    private static final int MARK_LIMIT = 4_096;

    /** Pairs of segments in the order in which they are tried for common memory. */
    private static final int[] PAIR_LOWER = {0, 0, 1};
    private static final int[] PAIR_UPPER = {1, 2, 2};

    private static final int[] HEAD = {127, 69, 76, 70, 1, 1, 1, 0, 0, 0, 0, 0, 0, 0, 0, 0};
    private static final int HEADER_SIZE = 52;
    private static final int AT_ENTRY = 24;
    private static final int AT_TABLE = 28;
    private static final int AT_FLAGS = 36;
    private static final int AT_ROWS = 44;
    private static final int ROWS_LIMIT = 8;

    private static final int ROW_SIZE = 32;
    private static final int KIND_NOTHING = 0;
    private static final int KIND_SEGMENT = 1;
    private static final int KIND_NOTE = 4;
    private static final int ROW_BEGIN = 4;
    private static final int ROW_ADDRESS = 8;
    private static final int ROW_AGAIN = 12;
    private static final int ROW_LENGTH = 16;
    private static final int ROW_MEMORY = 20;
    private static final int ROW_RIGHTS = 24;
    private static final int ROW_PAGE = 28;

    private static final int[] NOTE_NAME = {77, 97, 114, 107, 115, 0, 0, 0};
    private static final int NOTE_NAME_AT = 12;
    private static final int NOTE_HALF = 20;
    private static final int NOTE_SUM = 24;
    private static final int NOTE_MARKS = 28;

    private final Image made;
    private final Image seen;
    private final Bytes file;
    private final Writer writer;
    private final Reader reader;

    public ImageFile() {
        made = new Image();
        seen = new Image();
        file = new Bytes(FILE_LIMIT);
        writer = new Writer(file);
        reader = new Reader(file);
    }

    public void clear() {
        made.becomeEmpty();
    }

    public void entry(int address) {
        made.entryAddress = address;
    }

    public boolean page(int power) {
        if (power < 0 || power > PAGE_POWERS) {
            return false;
        }
        made.pageSize = 1 << power;
        return true;
    }

    public boolean segment(int s, int address, int more) {
        Segment segment = made.segmentOrNull(s);
        if (segment == null || address < 0 || address >= MEMORY_LIMIT) {
            return false;
        }
        if (more < 0 || more > (s == DATA ? MORE_LIMIT : 0)) {
            return false;
        }
        segment.lieAt(address, more);
        return true;
    }

    public boolean drop(int s) {
        Segment segment = made.segmentOrNull(s);
        if (segment == null || !segment.there) {
            return false;
        }
        segment.leave();
        return true;
    }

    public boolean put(int s, int n, long eight) {
        Segment segment = made.segmentOrNull(s);
        return segment != null && segment.there && segment.bytes.addHighest(n, eight);
    }

    public boolean mark(int offset, boolean on) {
        if (!Image.canHaveMark(offset) || made.hasMark(offset) == on) {
            return false;
        }
        made.turnMark(offset);
        return true;
    }

    public int write() {
        int fault = made.faultOfGood();
        return fault != 0 ? -fault : writer.writeOut(made);
    }

    public int size() {
        return file.count;
    }

    public int byteAt(int k) {
        return file.at(k);
    }

    public boolean feed(int n, long eight) {
        return file.addHighest(n, eight);
    }

    public boolean cut(int n) {
        return file.shorten(n);
    }

    public int spoil(int k, int b) {
        int before = file.at(k);
        file.change(k, b);
        return before;
    }

    public int read() {
        int fault = reader.examine();
        if (fault == 0) {
            seen.becomeLike(reader.draft);
        }
        return fault;
    }

    public int place() {
        return reader.faultPlace;
    }

    public void keep() {
        made.becomeLike(seen);
    }

    public int about(int s, int what) {
        Segment segment = seen.segmentOrNull(s);
        if (segment == null) {
            return NONE;
        }
        if (what == 0) {
            return segment.there ? 1 : 0;
        }
        return segment.there ? segment.numberAbout(what) : NONE;
    }

    public int told(int what) {
        switch (what) {
            case 0:
                return seen.entryAddress;
            case 1:
                return seen.pageSize;
            case 2:
                return seen.sum();
            case 3:
                return seen.countMarks();
            case 4:
                return seen.countShortMarks();
            default:
                return 0;
        }
    }

    public int byteIn(int address) {
        return seen.memoryByte(address);
    }

    public int wordIn(int address) {
        int word = 0;
        for (int i = 0; i < 4; i++) {
            int b = seen.memoryByte(address + i);
            if (b == NONE) {
                return NONE;
            }
            word |= b << 8 * i;
        }
        return word;
    }

    public int rights(int address) {
        Segment segment = seen.segmentAround(address);
        return segment == null ? 0 : segment.permits;
    }

    public int marked(int address) {
        int offset = seen.offsetOf(address);
        return seen.hasMark(offset) ? seen.instructionLength(offset) : 0;
    }

    public int markBelow(int address) {
        return seen.lastMarkUpTo(address);
    }

    /** A row of bytes up to a limit; it grows with its bytes, so that an unused one takes no room. */
    private static final class Bytes {
        private final int limit;
        private byte[] row;
        private int count;

        Bytes(int limit) {
            this.limit = limit;
            row = new byte[0];
        }

        int at(int k) {
            return k < 0 || k >= count ? NONE : row[k] & 255;
        }

        int u2(int k) {
            return k < 0 || k > count - 2 ? NONE : at(k) | at(k + 1) << 8;
        }

        long u4(int k) {
            if (k < 0 || k > count - 4) {
                return NONE;
            }
            return at(k) | at(k + 1) << 8 | at(k + 2) << 16 | (long) at(k + 3) << 24;
        }

        void change(int k, int b) {
            if (k >= 0 && k < count) {
                row[k] = (byte) b;
            }
        }

        boolean shorten(int n) {
            if (n < 0 || n > count) {
                return false;
            }
            count = n;
            return true;
        }

        boolean addHighest(int n, long eight) {
            if (n < 1 || n > 8 || !makeRoom(n)) {
                return false;
            }
            for (int i = 0; i < n; i++) {
                row[count + i] = (byte) (eight >>> 56 - 8 * i);
            }
            count += n;
            return true;
        }

        void addByte(int b) {
            addNumber(b, 1);
        }

        void addU2(int number) {
            addNumber(number, 2);
        }

        void addU4(int number) {
            addNumber(number, 4);
        }

        private void addNumber(int number, int width) {
            if (makeRoom(width)) {
                for (int i = 0; i < width; i++) {
                    row[count + i] = (byte) (number >>> 8 * i);
                }
                count += width;
            }
        }

        void addZerosTo(int end) {
            if (end >= count && makeRoom(end - count)) {
                for (int k = count; k < end; k++) {
                    row[k] = 0;
                }
                count = end;
            }
        }

        void addPart(Bytes from, int begin, int length) {
            if (begin >= 0 && length >= 0 && begin <= from.count - length && makeRoom(length)) {
                System.arraycopy(from.row, begin, row, count, length);
                count += length;
            }
        }

        void becomeLike(Bytes other) {
            count = 0;
            addPart(other, 0, other.count);
        }

        private boolean makeRoom(int wanted) {
            if (wanted < 0 || wanted > limit - count) {
                return false;
            }
            int needed = count + wanted;
            if (needed > row.length) {
                row = Arrays.copyOf(row, Math.min(limit, Math.max(needed, 2 * row.length)));
            }
            return true;
        }
    }

    /** One segment of an image; one that is not there has no bytes. */
    private static final class Segment {
        private final int permits;
        private final Bytes bytes;
        private boolean there;
        private int address;
        private int more;

        Segment(int permits) {
            this.permits = permits;
            bytes = new Bytes(BYTES_LIMIT);
        }

        void lieAt(int newAddress, int newMore) {
            there = true;
            address = newAddress;
            more = newMore;
        }

        void leave() {
            there = false;
            address = 0;
            more = 0;
            bytes.shorten(0);
        }

        void becomeLike(Segment other) {
            there = other.there;
            address = other.address;
            more = other.more;
            bytes.becomeLike(other.bytes);
        }

        int memorySize() {
            return bytes.count + more;
        }

        int memoryEnd() {
            return address + memorySize();
        }

        boolean isAround(int place) {
            return there && place >= address && place < memoryEnd();
        }

        boolean meets(Segment other) {
            return there && other.there
                && Math.max(address, other.address) < Math.min(memoryEnd(), other.memoryEnd());
        }

        int memoryByte(int place) {
            int offset = place - address;
            return offset < bytes.count ? bytes.at(offset) : 0;
        }

        int numberAbout(int what) {
            switch (what) {
                case 1:
                    return address;
                case 2:
                    return bytes.count;
                case 3:
                    return more;
                default:
                    return NONE;
            }
        }
    }

    /** An image: its segments, entry, page and marks, and what makes it good. */
    private static final class Image {
        private final Segment[] segments;
        private final Segment text;
        private final byte[] markBytes;
        private int entryAddress;
        private int pageSize;

        Image() {
            segments = new Segment[SEGMENTS];
            for (int s = 0; s < SEGMENTS; s++) {
                segments[s] = new Segment(RIGHTS[s]);
            }
            text = segments[TEXT];
            markBytes = new byte[MARK_LIMIT / 16];
            pageSize = 1;
        }

        void becomeEmpty() {
            for (Segment segment : segments) {
                segment.leave();
            }
            Arrays.fill(markBytes, (byte) 0);
            entryAddress = 0;
            pageSize = 1;
        }

        void becomeLike(Image other) {
            for (int s = 0; s < SEGMENTS; s++) {
                segments[s].becomeLike(other.segments[s]);
            }
            System.arraycopy(other.markBytes, 0, markBytes, 0, markBytes.length);
            entryAddress = other.entryAddress;
            pageSize = other.pageSize;
        }

        Segment segmentOrNull(int s) {
            return s < 0 || s >= SEGMENTS ? null : segments[s];
        }

        Segment segmentAround(int address) {
            for (Segment segment : segments) {
                if (segment.isAround(address)) {
                    return segment;
                }
            }
            return null;
        }

        int memoryByte(int address) {
            Segment segment = segmentAround(address);
            return segment == null ? NONE : segment.memoryByte(address);
        }

        static boolean canHaveMark(int offset) {
            return offset >= 0 && offset < MARK_LIMIT && (offset & 1) == 0;
        }

        boolean hasMark(int offset) {
            return canHaveMark(offset) && (markBytes[offset >> 4] & markBit(offset)) != 0;
        }

        void turnMark(int offset) {
            if (canHaveMark(offset)) {
                markBytes[offset >> 4] ^= (byte) markBit(offset);
            }
        }

        private static int markBit(int offset) {
            return 1 << (offset >> 1 & 7);
        }

        int markByteCount() {
            return text.bytes.count + 15 >> 4;
        }

        int markByte(int i) {
            return i < 0 || i >= markBytes.length ? 0 : markBytes[i] & 255;
        }

        void setMarkByte(int i, int b) {
            if (i >= 0 && i < markBytes.length) {
                markBytes[i] = (byte) b;
            }
        }

        int instructionLength(int offset) {
            return (text.bytes.at(offset) & 3) == 3 ? 4 : 2;
        }

        int countMarks() {
            int marks = 0;
            for (int offset = 0; offset < MARK_LIMIT; offset += 2) {
                if (hasMark(offset)) {
                    marks++;
                }
            }
            return marks;
        }

        int countShortMarks() {
            int marks = 0;
            for (int offset = 0; offset < MARK_LIMIT; offset += 2) {
                if (hasMark(offset) && instructionLength(offset) == 2) {
                    marks++;
                }
            }
            return marks;
        }

        int flags() {
            return countShortMarks() > 0 ? 1 : 0;
        }

        /** The offset in TEXT of an address; NONE when it lies ahead of TEXT, or there is no TEXT. */
        int offsetOf(int address) {
            return text.there && address >= text.address ? address - text.address : NONE;
        }

        int lastMarkUpTo(int address) {
            int from = Math.min(offsetOf(address), MARK_LIMIT - 1);
            for (int offset = from; offset >= 0; offset--) {
                if (hasMark(offset)) {
                    return text.address + offset;
                }
            }
            return NONE;
        }

        int faultOfGood() {
            if (!hasWholeText()) {
                return 1;
            }
            if (firstBeyondMemory() != NONE) {
                return 2;
            }
            if (firstMeetingPair() != NONE) {
                return 3;
            }
            if (firstBadMark() != NONE) {
                return 4;
            }
            return entryHasMark() ? 0 : 5;
        }

        boolean hasWholeText() {
            return text.there && text.bytes.count > 0 && (text.bytes.count & 1) == 0;
        }

        int firstBeyondMemory() {
            for (int s = 0; s < SEGMENTS; s++) {
                if (segments[s].there && segments[s].memoryEnd() > MEMORY_LIMIT) {
                    return s;
                }
            }
            return NONE;
        }

        int firstMeetingPair() {
            for (int pair = 0; pair < PAIR_LOWER.length; pair++) {
                if (segments[PAIR_LOWER[pair]].meets(segments[PAIR_UPPER[pair]])) {
                    return pair;
                }
            }
            return NONE;
        }

        int firstBadMark() {
            for (int offset = 0; offset < MARK_LIMIT; offset += 2) {
                if (hasMark(offset) && !instructionFits(offset)) {
                    return offset;
                }
            }
            return NONE;
        }

        private boolean instructionFits(int offset) {
            if (offset >= text.bytes.count) {
                return false;
            }
            int length = instructionLength(offset);
            boolean runsIntoNext = length == 4 && hasMark(offset + 2);
            return offset + length <= text.bytes.count && !runsIntoNext;
        }

        boolean entryHasMark() {
            return hasMark(offsetOf(entryAddress));
        }

        int sum() {
            int register = Sum.withNumber(Sum.START, entryAddress);
            for (Segment segment : segments) {
                if (segment.there) {
                    register = Sum.withNumber(register, segment.address);
                    register = Sum.withNumber(register, segment.more);
                    register = Sum.withBytes(register, segment.bytes);
                }
            }
            int last = markByteCount();
            for (int i = 0; i < last; i++) {
                register = Sum.withByte(register, markByte(i));
            }
            return ~register;
        }
    }

    /** The register of THE SUM, four bits a step. */
    private static final class Sum {
        private static final int START = -1;

        /** What each value of the four bits taken off does to the register: 3988292384, shifted and joined. */
        private static final int[] FOUR_BITS = {
            0x00000000, 0x1db71064, 0x3b6e20c8, 0x26d930ac,
            0x76dc4190, 0x6b6b51f4, 0x4db26158, 0x5005713c,
            0xedb88320, 0xf00f9344, 0xd6d6a3e8, 0xcb61b38c,
            0x9b64c2b0, 0x86d3d2d4, 0xa00ae278, 0xbdbdf21c
        };

        static int withByte(int register, int b) {
            int mixed = register ^ b & 255;
            mixed = mixed >>> 4 ^ FOUR_BITS[mixed & 15];
            return mixed >>> 4 ^ FOUR_BITS[mixed & 15];
        }

        static int withNumber(int register, int number) {
            int mixed = register;
            for (int i = 0; i < 4; i++) {
                mixed = withByte(mixed, number >>> 8 * i);
            }
            return mixed;
        }

        static int withBytes(int register, Bytes bytes) {
            int mixed = register;
            for (int k = 0; k < bytes.count; k++) {
                mixed = withByte(mixed, bytes.at(k));
            }
            return mixed;
        }
    }

    /** The sizes that writing and reading must agree on. */
    private static final class Layout {
        static int upToFour(int n) {
            return n + 3 & ~3;
        }

        static int noteLength(Image image) {
            return NOTE_MARKS + upToFour(image.markByteCount());
        }
    }

    /** Writes a good image into the file. */
    private static final class Writer {
        private final Bytes file;
        private final int[] begins;
        private int noteBegin;
        private int rows;

        Writer(Bytes file) {
            this.file = file;
            begins = new int[SEGMENTS];
        }

        /** How many bytes were written; -6, and the file stays, when they would be too many. */
        int writeOut(Image image) {
            layOut(image);
            int total = noteBegin + Layout.noteLength(image);
            if (total > FILE_LIMIT) {
                return -6;
            }
            file.shorten(0);
            addHeader(image);
            addTable(image);
            addSegments(image);
            file.addZerosTo(noteBegin);
            addNote(image);
            return total;
        }

        private void layOut(Image image) {
            rows = 1;
            for (Segment segment : image.segments) {
                rows += segment.there ? 1 : 0;
            }
            int at = HEADER_SIZE + ROW_SIZE * rows;
            for (int s = 0; s < SEGMENTS; s++) {
                Segment segment = image.segments[s];
                if (segment.there) {
                    // The page is a power of two, so the mask is the way to the next place with that rest.
                    at += segment.address - at & image.pageSize - 1;
                    begins[s] = at;
                    at += segment.bytes.count;
                }
            }
            noteBegin = Layout.upToFour(at);
        }

        private void addHeader(Image image) {
            for (int b : HEAD) {
                file.addByte(b);
            }
            file.addU2(2);
            file.addU2(243);
            file.addU4(1);
            file.addU4(image.entryAddress);
            file.addU4(HEADER_SIZE);
            file.addU4(0);
            file.addU4(image.flags());
            file.addU2(HEADER_SIZE);
            file.addU2(ROW_SIZE);
            file.addU2(rows);
            file.addZerosTo(HEADER_SIZE);
        }

        private void addTable(Image image) {
            for (int s = 0; s < SEGMENTS; s++) {
                Segment segment = image.segments[s];
                if (segment.there) {
                    addRowStart(KIND_SEGMENT, begins[s], segment.address);
                    addRowEnd(segment.bytes.count, segment.memorySize(), segment.permits, image.pageSize);
                }
            }
            addRowStart(KIND_NOTE, noteBegin, 0);
            addRowEnd(Layout.noteLength(image), 0, RIGHTS_NOTE, 4);
        }

        private void addRowStart(int kind, int begin, int address) {
            file.addU4(kind);
            file.addU4(begin);
            file.addU4(address);
            file.addU4(address);
        }

        private void addRowEnd(int length, int memory, int permits, int pageSize) {
            file.addU4(length);
            file.addU4(memory);
            file.addU4(permits);
            file.addU4(pageSize);
        }

        private void addSegments(Image image) {
            for (int s = 0; s < SEGMENTS; s++) {
                Segment segment = image.segments[s];
                if (segment.there) {
                    file.addZerosTo(begins[s]);
                    file.addPart(segment.bytes, 0, segment.bytes.count);
                }
            }
        }

        private void addNote(Image image) {
            int length = Layout.noteLength(image);
            int markBytes = image.markByteCount();
            file.addU4(6);
            file.addU4(length - NOTE_HALF);
            file.addU4(1);
            for (int b : NOTE_NAME) {
                file.addByte(b);
            }
            file.addU4(image.text.bytes.count / 2);
            file.addU4(image.sum());
            for (int i = 0; i < markBytes; i++) {
                file.addByte(image.markByte(i));
            }
            file.addZerosTo(noteBegin + length);
        }
    }

    /** Reads the file into a draft; each method named ..Fault answers 0 or the first fault it looks for. */
    private static final class Reader {
        private final Bytes file;
        private final Image draft;
        private final int[] rowOf;
        private int tableBegin;
        private int rows;
        private int noteRow;
        private int noteBegin;
        private int noteLength;
        private int faultPlace;

        Reader(Bytes file) {
            this.file = file;
            draft = new Image();
            rowOf = new int[SEGMENTS];
            noteRow = NONE;
            faultPlace = NONE;
        }

        int examine() {
            draft.becomeEmpty();
            noteRow = NONE;
            faultPlace = NONE;
            int fault = headFault();
            if (fault == 0) {
                fault = numbersFault();
            }
            if (fault == 0) {
                fault = tableFault();
            }
            if (fault == 0) {
                fault = memoryFault();
            }
            if (fault == 0) {
                fault = noteFault();
            }
            return fault == 0 ? marksFault() : fault;
        }

        private int faultAt(int fault, int place) {
            faultPlace = place;
            return fault;
        }

        private int headFault() {
            if (file.count < HEADER_SIZE) {
                return faultAt(1, file.count);
            }
            for (int k = 0; k < HEAD.length; k++) {
                if (file.at(k) != HEAD[k]) {
                    return faultAt(faultOfHeadByte(k), k);
                }
            }
            if (file.u2(16) != 2) {
                return faultAt(7, 16);
            }
            return file.u2(18) != 243 ? faultAt(8, 18) : 0;
        }

        private static int faultOfHeadByte(int k) {
            if (k < 4) {
                return 2;
            }
            return k < 7 ? k - 1 : 6;
        }

        private int numbersFault() {
            int wrong = firstWrongNumber();
            if (wrong != NONE) {
                return faultAt(9, wrong);
            }
            long begin = file.u4(AT_TABLE);
            rows = file.u2(AT_ROWS);
            if (begin + ROW_SIZE * rows > file.count) {
                return faultAt(10, AT_TABLE);
            }
            tableBegin = (int) begin;
            draft.entryAddress = (int) file.u4(AT_ENTRY);
            return 0;
        }

        private int firstWrongNumber() {
            if (file.u4(20) != 1) {
                return 20;
            }
            if (file.u4(AT_TABLE) < HEADER_SIZE || (file.u4(AT_TABLE) & 3) != 0) {
                return AT_TABLE;
            }
            if (file.u4(32) != 0) {
                return 32;
            }
            if (file.u4(AT_FLAGS) > 1) {
                return AT_FLAGS;
            }
            if (file.u2(40) != HEADER_SIZE) {
                return 40;
            }
            if (file.u2(42) != ROW_SIZE) {
                return 42;
            }
            if (file.u2(AT_ROWS) < 1 || file.u2(AT_ROWS) > ROWS_LIMIT) {
                return AT_ROWS;
            }
            for (int k = 46; k < HEADER_SIZE; k += 2) {
                if (file.u2(k) != 0) {
                    return k;
                }
            }
            return NONE;
        }

        private int tableFault() {
            for (int i = 0; i < rows; i++) {
                int fault = rowFault(tableBegin + ROW_SIZE * i);
                if (fault != 0) {
                    return fault;
                }
            }
            return 0;
        }

        private int rowFault(int row) {
            long kind = file.u4(row);
            if (kind == KIND_NOTHING) {
                return 0;
            }
            if (kind != KIND_SEGMENT && kind != KIND_NOTE) {
                return faultAt(11, row);
            }
            long begin = file.u4(row + ROW_BEGIN);
            long length = file.u4(row + ROW_LENGTH);
            if (begin + length > file.count || length > 0 && begin < HEADER_SIZE) {
                return faultAt(12, row + ROW_BEGIN);
            }
            int fault = kind == KIND_NOTE ? noteRowFault(row) : segmentRowFault(row);
            if (fault != 0) {
                return fault;
            }
            if (sharesBytes(row)) {
                return faultAt(19, row + ROW_BEGIN);
            }
            if (kind == KIND_NOTE) {
                takeNote(row);
            } else {
                takeSegment(row);
            }
            return 0;
        }

        private int segmentRowFault(int row) {
            long address = file.u4(row + ROW_ADDRESS);
            long pageSize = file.u4(row + ROW_PAGE);
            if (!isPage(pageSize) || ((file.u4(row + ROW_BEGIN) ^ address) & pageSize - 1) != 0) {
                return faultAt(13, row + ROW_PAGE);
            }
            Segment segment = draft.segmentOrNull(segmentWith(file.u4(row + ROW_RIGHTS)));
            if (segment == null || segment.there) {
                return faultAt(14, row + ROW_RIGHTS);
            }
            if (address >= MEMORY_LIMIT) {
                return faultAt(15, row + ROW_ADDRESS);
            }
            if (file.u4(row + ROW_AGAIN) != address) {
                return faultAt(16, row + ROW_AGAIN);
            }
            long length = file.u4(row + ROW_LENGTH);
            if (length > BYTES_LIMIT) {
                return faultAt(17, row + ROW_LENGTH);
            }
            long more = file.u4(row + ROW_MEMORY) - length;
            if (more < 0 || more > (segment.permits == RIGHTS_DATA ? MORE_LIMIT : 0)) {
                return faultAt(18, row + ROW_MEMORY);
            }
            return 0;
        }

        private int noteRowFault(int row) {
            if (!isPage(file.u4(row + ROW_PAGE)) || (file.u4(row + ROW_BEGIN) & 3) != 0) {
                return faultAt(13, row + ROW_PAGE);
            }
            if (file.u4(row + ROW_RIGHTS) != RIGHTS_NOTE || noteRow != NONE) {
                return faultAt(14, row + ROW_RIGHTS);
            }
            if (file.u4(row + ROW_ADDRESS) != 0) {
                return faultAt(15, row + ROW_ADDRESS);
            }
            if (file.u4(row + ROW_AGAIN) != 0) {
                return faultAt(16, row + ROW_AGAIN);
            }
            return file.u4(row + ROW_MEMORY) != 0 ? faultAt(18, row + ROW_MEMORY) : 0;
        }

        private static boolean isPage(long number) {
            return number >= 1 && number <= PAGE_LIMIT && (number & number - 1) == 0;
        }

        private static int segmentWith(long permits) {
            for (int s = 0; s < SEGMENTS; s++) {
                if (RIGHTS[s] == permits) {
                    return s;
                }
            }
            return NONE;
        }

        private boolean sharesBytes(int row) {
            long begin = file.u4(row + ROW_BEGIN);
            long end = begin + file.u4(row + ROW_LENGTH);
            if (meet(begin, end, tableBegin, tableBegin + ROW_SIZE * rows)) {
                return true;
            }
            for (int ahead = tableBegin; ahead < row; ahead += ROW_SIZE) {
                long aheadBegin = file.u4(ahead + ROW_BEGIN);
                long aheadEnd = aheadBegin + file.u4(ahead + ROW_LENGTH);
                if (file.u4(ahead) != KIND_NOTHING && meet(begin, end, aheadBegin, aheadEnd)) {
                    return true;
                }
            }
            return false;
        }

        private static boolean meet(long begin, long end, long otherBegin, long otherEnd) {
            return Math.max(begin, otherBegin) < Math.min(end, otherEnd);
        }

        private void takeNote(int row) {
            noteRow = row;
            noteBegin = (int) file.u4(row + ROW_BEGIN);
            noteLength = (int) file.u4(row + ROW_LENGTH);
        }

        private void takeSegment(int row) {
            int s = segmentWith(file.u4(row + ROW_RIGHTS));
            Segment segment = draft.segmentOrNull(s);
            if (segment == null) {
                return;
            }
            int length = (int) file.u4(row + ROW_LENGTH);
            segment.lieAt((int) file.u4(row + ROW_ADDRESS), (int) file.u4(row + ROW_MEMORY) - length);
            segment.bytes.addPart(file, (int) file.u4(row + ROW_BEGIN), length);
            draft.pageSize = Math.max(draft.pageSize, (int) file.u4(row + ROW_PAGE));
            rowOf[s] = row;
        }

        private int memoryFault() {
            if (!draft.hasWholeText()) {
                return faultAt(21, AT_ROWS);
            }
            int beyond = draft.firstBeyondMemory();
            if (beyond != NONE) {
                return faultAt(22, rowOf[beyond] + ROW_MEMORY);
            }
            int pair = draft.firstMeetingPair();
            if (pair != NONE) {
                int behind = Math.max(rowOf[PAIR_LOWER[pair]], rowOf[PAIR_UPPER[pair]]);
                return faultAt(23, behind + ROW_ADDRESS);
            }
            return 0;
        }

        private int noteFault() {
            if (noteRow == NONE) {
                return faultAt(24, AT_ROWS);
            }
            if (noteLength < NOTE_MARKS) {
                return faultAt(25, noteRow + ROW_LENGTH);
            }
            int wrong = firstWrongInNote();
            if (wrong != NONE) {
                return faultAt(25, wrong);
            }
            if (noteLength != Layout.noteLength(draft)) {
                return faultAt(25, noteRow + ROW_LENGTH);
            }
            return restFault();
        }

        private int firstWrongInNote() {
            if (file.u4(noteBegin) != 6) {
                return noteBegin;
            }
            if (file.u4(noteBegin + 4) != noteLength - NOTE_HALF) {
                return noteBegin + 4;
            }
            if (file.u4(noteBegin + 8) != 1) {
                return noteBegin + 8;
            }
            for (int i = 0; i < NOTE_NAME.length; i++) {
                if (file.at(noteBegin + NOTE_NAME_AT + i) != NOTE_NAME[i]) {
                    return noteBegin + NOTE_NAME_AT + i;
                }
            }
            boolean halfIsRight = file.u4(noteBegin + NOTE_HALF) == draft.text.bytes.count / 2;
            return halfIsRight ? NONE : noteBegin + NOTE_HALF;
        }

        /** What lies behind the last mark that TEXT has room for must be 0. */
        private int restFault() {
            int end = noteBegin + noteLength;
            int behind = noteBegin + NOTE_MARKS + draft.markByteCount();
            int bitsInLast = (draft.text.bytes.count / 2 - 1 & 7) + 1;
            if (file.at(behind - 1) >> bitsInLast != 0) {
                return faultAt(26, behind - 1);
            }
            for (int k = behind; k < end; k++) {
                if (file.at(k) != 0) {
                    return faultAt(26, k);
                }
            }
            return 0;
        }

        private int marksFault() {
            int markBytes = draft.markByteCount();
            for (int i = 0; i < markBytes; i++) {
                draft.setMarkByte(i, file.at(noteBegin + NOTE_MARKS + i));
            }
            int bad = draft.firstBadMark();
            if (bad != NONE) {
                return faultAt(27, noteBegin + NOTE_MARKS + (bad >> 4));
            }
            if (!draft.entryHasMark()) {
                return faultAt(28, AT_ENTRY);
            }
            if ((int) file.u4(noteBegin + NOTE_SUM) != draft.sum()) {
                return faultAt(29, noteBegin + NOTE_SUM);
            }
            return file.u4(AT_FLAGS) != draft.flags() ? faultAt(30, AT_FLAGS) : 0;
        }
    }
}
