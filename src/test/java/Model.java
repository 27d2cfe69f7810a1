import java.io.ByteArrayOutputStream;
import java.nio.ByteBuffer;
import java.nio.ByteOrder;
import java.util.ArrayList;
import java.util.Arrays;
import java.util.List;
import java.util.NavigableSet;
import java.util.TreeSet;
import java.util.zip.CRC32;

/** The document once more, by other means than the class under test: slow, and plain. */
final class Model {
    static final int[] RIGHTS = {5, 4, 6};

    static final class Seg {
        long address;
        long more;
        byte[] bytes = new byte[0];

        long end() {
            return address + bytes.length + more;
        }

        Seg copy() {
            Seg seg = new Seg();
            seg.address = address;
            seg.more = more;
            seg.bytes = bytes.clone();
            return seg;
        }
    }

    static final class Img {
        int entry;
        int page = 1;
        Seg[] segs = new Seg[3];
        NavigableSet<Integer> marks = new TreeSet<>();

        Img copy() {
            Img img = new Img();
            img.entry = entry;
            img.page = page;
            for (int s = 0; s < 3; s++) {
                img.segs[s] = segs[s] == null ? null : segs[s].copy();
            }
            img.marks = new TreeSet<>(marks);
            return img;
        }

        int lengthAt(int offset) {
            int low = segs[0].bytes[offset] & 3;
            return low == 3 ? 4 : 2;
        }

        int shorts() {
            int n = 0;
            for (int m : marks) {
                n += lengthAt(m) == 2 ? 1 : 0;
            }
            return n;
        }

        boolean good1() {
            return segs[0] != null && segs[0].bytes.length > 0 && segs[0].bytes.length % 2 == 0;
        }

        int bad2() {
            for (int s = 0; s < 3; s++) {
                if (segs[s] != null && segs[s].end() - 1 > 131071) {
                    return s;
                }
            }
            return -1;
        }

        int[] bad3() {
            for (int a = 0; a < 3; a++) {
                for (int b = a + 1; b < 3; b++) {
                    if (segs[a] == null || segs[b] == null) {
                        continue;
                    }
                    for (long k = segs[a].address; k < segs[a].end(); k++) {
                        if (k >= segs[b].address && k < segs[b].end()) {
                            return new int[] {a, b};
                        }
                    }
                }
            }
            return null;
        }

        int bad4() {
            for (int m : marks) {
                if (m >= segs[0].bytes.length) {
                    return m;
                }
                int end = m + lengthAt(m);
                Integer next = marks.higher(m);
                if (end > segs[0].bytes.length || next != null && end > next) {
                    return m;
                }
            }
            return -1;
        }

        boolean good5() {
            for (int m : marks) {
                if (segs[0].address + m == entry) {
                    return true;
                }
            }
            return false;
        }

        byte[] markBytes() {
            int text = segs[0] == null ? 0 : segs[0].bytes.length;
            byte[] out = new byte[(text + 15) / 16];
            for (int m : marks) {
                if (m / 16 < out.length) {
                    out[m / 16] |= (byte) (1 << m % 16 / 2);
                }
            }
            return out;
        }

        int sum() {
            ByteBuffer all = little(20000);
            all.putInt(entry);
            for (Seg seg : segs) {
                if (seg != null) {
                    all.putInt((int) seg.address).putInt((int) seg.more).put(seg.bytes);
                }
            }
            all.put(markBytes());
            CRC32 crc = new CRC32();
            crc.update(all.array(), 0, all.position());
            return (int) crc.getValue();
        }
    }

    static final class Fault extends Exception {
        private static final long serialVersionUID = 1L;
        final int number;
        final long at;

        Fault(int number, long at) {
            this.number = number;
            this.at = at;
        }
    }

    Img made = new Img();
    Img seen = new Img();
    byte[] file = new byte[0];
    int place = -1;

    static ByteBuffer little(int n) {
        return ByteBuffer.allocate(n).order(ByteOrder.LITTLE_ENDIAN);
    }

    void clear() {
        made = new Img();
    }

    void entry(int address) {
        made.entry = address;
    }

    boolean page(int power) {
        if (power < 0 || power > 12) {
            return false;
        }
        made.page = (int) Math.pow(2, power);
        return true;
    }

    boolean segment(int s, int address, int more) {
        if (s < 0 || s > 2 || address < 0 || address > 131071 || more < 0 || more > 32768) {
            return false;
        }
        if (s != 2 && more != 0) {
            return false;
        }
        if (made.segs[s] == null) {
            made.segs[s] = new Seg();
        }
        made.segs[s].address = address;
        made.segs[s].more = more;
        return true;
    }

    boolean drop(int s) {
        if (s < 0 || s > 2 || made.segs[s] == null) {
            return false;
        }
        made.segs[s] = null;
        return true;
    }

    boolean put(int s, int n, long eight) {
        if (s < 0 || s > 2 || made.segs[s] == null || n < 1 || n > 8) {
            return false;
        }
        byte[] bytes = joined(made.segs[s].bytes, n, eight);
        if (bytes.length > 4096) {
            return false;
        }
        made.segs[s].bytes = bytes;
        return true;
    }

    private static byte[] joined(byte[] before, int n, long eight) {
        byte[] big = ByteBuffer.allocate(8).putLong(eight).array();
        byte[] all = Arrays.copyOf(before, before.length + n);
        System.arraycopy(big, 0, all, before.length, n);
        return all;
    }

    boolean mark(int offset, boolean on) {
        if (offset % 2 != 0 || offset < 0 || offset > 4094) {
            return false;
        }
        return on ? made.marks.add(offset) : made.marks.remove(offset);
    }

    int write() {
        if (!made.good1()) {
            return -1;
        }
        if (made.bad2() >= 0) {
            return -2;
        }
        if (made.bad3() != null) {
            return -3;
        }
        if (made.bad4() >= 0) {
            return -4;
        }
        if (!made.good5()) {
            return -5;
        }
        byte[] out = written(made);
        if (out.length > 16384) {
            return -6;
        }
        file = out;
        return out.length;
    }

    static byte[] written(Img img) {
        int rows = 1;
        for (Seg seg : img.segs) {
            rows += seg == null ? 0 : 1;
        }
        ByteBuffer b = little(40000);
        b.put(new byte[] {127, 69, 76, 70, 1, 1, 1}).put(new byte[9]);
        b.putShort((short) 2).putShort((short) 243).putInt(1).putInt(img.entry).putInt(52).putInt(0);
        b.putInt(img.shorts() > 0 ? 1 : 0).putShort((short) 52).putShort((short) 32);
        b.putShort((short) rows).putShort((short) 0).putInt(0);
        int table = b.position();
        int at = table + 32 * rows;
        int row = table;
        for (int s = 0; s < 3; s++) {
            Seg seg = img.segs[s];
            if (seg == null) {
                continue;
            }
            while (at % img.page != seg.address % img.page) {
                at++;
            }
            b.position(row);
            int length = seg.bytes.length;
            b.putInt(1).putInt(at).putInt((int) seg.address).putInt((int) seg.address);
            b.putInt(length).putInt(length + (int) seg.more).putInt(RIGHTS[s]).putInt(img.page);
            b.position(at);
            b.put(seg.bytes);
            at += length;
            row += 32;
        }
        while (at % 4 != 0) {
            at++;
        }
        byte[] markBytes = img.markBytes();
        int tail = (markBytes.length + 3) / 4 * 4;
        b.position(row);
        b.putInt(4).putInt(at).putInt(0).putInt(0).putInt(28 + tail).putInt(0).putInt(4).putInt(4);
        b.position(at);
        b.putInt(6).putInt(8 + tail).putInt(1).put("Marks".getBytes()).put(new byte[3]);
        b.putInt(img.segs[0].bytes.length / 2).putInt(img.sum()).put(markBytes);
        return Arrays.copyOf(b.array(), at + 28 + tail);
    }

    int size() {
        return file.length;
    }

    int byteAt(int k) {
        return k >= 0 && k < file.length ? file[k] & 255 : -1;
    }

    boolean feed(int n, long eight) {
        if (n < 1 || n > 8 || file.length + n > 16384) {
            return false;
        }
        file = joined(file, n, eight);
        return true;
    }

    boolean cut(int n) {
        if (n < 0 || n > file.length) {
            return false;
        }
        file = Arrays.copyOf(file, n);
        return true;
    }

    int spoil(int k, int b) {
        int was = byteAt(k);
        if (was >= 0) {
            file[k] = (byte) b;
        }
        return was;
    }

    int read() {
        try {
            seen = new Reading(file).image();
            place = -1;
            return 0;
        } catch (Fault fault) {
            place = (int) fault.at;
            return fault.number;
        }
    }

    /** One reading of a file, from the document's list downwards. */
    static final class Reading {
        private final ByteBuffer file;
        private final int n;
        private final Img img = new Img();
        private final List<long[]> ahead = new ArrayList<>();
        private final long[] rowOf = new long[3];
        private long[] note;
        private long noteRow;

        Reading(byte[] bytes) {
            file = ByteBuffer.wrap(bytes).order(ByteOrder.LITTLE_ENDIAN);
            n = bytes.length;
        }

        /** What was read up to the fault. */
        Img draft() {
            return img;
        }

        private long u4(long k) {
            return file.getInt((int) k) & 0xffffffffL;
        }

        private int u2(int k) {
            return file.getShort(k) & 0xffff;
        }

        private static void unless(boolean fine, int number, long at) throws Fault {
            if (!fine) {
                throw new Fault(number, at);
            }
        }

        Img image() throws Fault {
            unless(n >= 52, 1, n);
            byte[] magic = {127, 'E', 'L', 'F'};
            for (int k = 0; k < 4; k++) {
                unless(file.get(k) == magic[k], 2, k);
            }
            unless(file.get(4) == 1, 3, 4);
            unless(file.get(5) == 1, 4, 5);
            unless(file.get(6) == 1, 5, 6);
            for (int k = 7; k <= 15; k++) {
                unless(file.get(k) == 0, 6, k);
            }
            unless(u2(16) == 2, 7, 16);
            unless(u2(18) == 243, 8, 18);
            unless(u4(20) == 1, 9, 20);
            long table = u4(28);
            unless(table % 4 == 0 && table >= 52, 9, 28);
            unless(u4(32) == 0, 9, 32);
            unless(u4(36) == 0 || u4(36) == 1, 9, 36);
            unless(u2(40) == 52, 9, 40);
            unless(u2(42) == 32, 9, 42);
            int rows = u2(44);
            unless(rows >= 1 && rows <= 8, 9, 44);
            unless(u2(46) == 0, 9, 46);
            unless(u2(48) == 0, 9, 48);
            unless(u2(50) == 0, 9, 50);
            unless(table + 32L * rows <= n, 10, 28);
            ahead.add(new long[] {table, 32L * rows});
            for (int i = 0; i < rows; i++) {
                row(table + 32L * i);
            }
            memory();
            theNote();
            return img;
        }

        private void row(long at) throws Fault {
            long[] v = new long[9];
            for (int i = 1; i <= 8; i++) {
                v[i] = u4(at + 4 * (i - 1));
            }
            if (v[1] == 0) {
                return;
            }
            boolean seg = v[1] == 1;
            unless(seg || v[1] == 4, 11, at);
            unless(v[2] + v[5] <= n && (v[5] == 0 || v[2] >= 52), 12, at + 4);
            unless(Long.bitCount(v[8]) == 1 && v[8] <= 4096, 13, at + 28);
            unless(seg ? v[2] % v[8] == v[3] % v[8] : v[2] % 4 == 0, 13, at + 28);
            int s = v[7] == 5 ? 0 : v[7] == 4 ? 1 : 2;
            if (seg) {
                unless(v[7] >= 4 && v[7] <= 6 && img.segs[s] == null, 14, at + 24);
                unless(v[3] <= 131071, 15, at + 8);
            } else {
                unless(v[7] == 4 && note == null, 14, at + 24);
                unless(v[3] == 0, 15, at + 8);
            }
            unless(v[4] == v[3], 16, at + 12);
            if (seg) {
                unless(v[5] <= 4096, 17, at + 16);
                unless(v[6] >= v[5] && v[6] - v[5] <= 32768 && (s == 2 || v[6] == v[5]), 18, at + 20);
            } else {
                unless(v[6] == 0, 18, at + 20);
            }
            for (long[] other : ahead) {
                for (long k = v[2]; k < v[2] + v[5]; k++) {
                    unless(k < other[0] || k >= other[0] + other[1], 19, at + 4);
                }
            }
            ahead.add(new long[] {v[2], v[5]});
            if (seg) {
                img.segs[s] = new Seg();
                img.segs[s].address = v[3];
                img.segs[s].more = v[6] - v[5];
                img.segs[s].bytes = Arrays.copyOfRange(file.array(), (int) v[2], (int) (v[2] + v[5]));
                img.page = (int) Math.max(img.page, v[8]);
                rowOf[s] = at;
            } else {
                note = v;
                noteRow = at;
            }
        }

        private void memory() throws Fault {
            unless(img.good1(), 21, 44);
            int s = img.bad2();
            unless(s < 0, 22, s < 0 ? 0 : rowOf[s] + 20);
            int[] pair = img.bad3();
            unless(pair == null, 23, pair == null ? 0 : Math.max(rowOf[pair[0]], rowOf[pair[1]]) + 8);
        }

        private void theNote() throws Fault {
            unless(note != null, 24, 44);
            long at = note[2];
            long length = note[5];
            unless(length >= 28, 25, noteRow + 16);
            unless(u4(at) == 6, 25, at);
            unless(u4(at + 4) == length - 20, 25, at + 4);
            unless(u4(at + 8) == 1, 25, at + 8);
            byte[] name = {'M', 'a', 'r', 'k', 's', 0, 0, 0};
            for (int i = 0; i < 8; i++) {
                unless(file.get((int) at + 12 + i) == name[i], 25, at + 12 + i);
            }
            int text = img.segs[0].bytes.length;
            unless(u4(at + 20) == text / 2, 25, at + 20);
            int markBytes = (text + 15) / 16;
            unless(length == 28 + (markBytes + 3) / 4 * 4, 25, noteRow + 16);
            for (int i = 0; i < length - 28; i++) {
                for (int j = 0; j < 8; j++) {
                    boolean bit = (file.get((int) at + 28 + i) >> j & 1) == 1;
                    unless(!bit || 16 * i + 2 * j < text, 26, at + 28 + i);
                    if (bit) {
                        img.marks.add(16 * i + 2 * j);
                    }
                }
            }
            int bad = img.bad4();
            unless(bad < 0, 27, at + 28 + bad / 16);
            img.entry = (int) u4(24);
            unless(img.good5(), 28, 24);
            unless((int) u4(at + 24) == img.sum(), 29, at + 24);
            unless(u4(36) == (img.shorts() > 0 ? 1 : 0), 30, 36);
        }
    }

    int place() {
        return place;
    }

    void keep() {
        made = seen.copy();
    }

    int about(int s, int what) {
        if (s < 0 || s > 2 || what < 0 || what > 3) {
            return -1;
        }
        Seg seg = seen.segs[s];
        if (what == 0) {
            return seg == null ? 0 : 1;
        }
        return seg == null ? -1 : (int) new long[] {1, seg.address, seg.bytes.length, seg.more}[what];
    }

    int told(int what) {
        switch (what) {
            case 0: return seen.entry;
            case 1: return seen.page;
            case 2: return seen.sum();
            case 3: return seen.marks.size();
            case 4: return seen.shorts();
            default: return 0;
        }
    }

    private int segmentOf(long address) {
        for (int s = 0; s < 3; s++) {
            if (seen.segs[s] != null && address >= seen.segs[s].address && address < seen.segs[s].end()) {
                return s;
            }
        }
        return -1;
    }

    int byteIn(long address) {
        int s = segmentOf(address);
        if (s < 0) {
            return -1;
        }
        int k = (int) (address - seen.segs[s].address);
        return k < seen.segs[s].bytes.length ? seen.segs[s].bytes[k] & 255 : 0;
    }

    int wordIn(int address) {
        ByteArrayOutputStream out = new ByteArrayOutputStream();
        for (long k = address; k < address + 4L; k++) {
            if (byteIn(k) < 0) {
                return -1;
            }
            out.write(byteIn(k));
        }
        return ByteBuffer.wrap(out.toByteArray()).order(ByteOrder.LITTLE_ENDIAN).getInt();
    }

    int rights(int address) {
        int s = segmentOf(address);
        return s < 0 ? 0 : RIGHTS[s];
    }

    int marked(int address) {
        for (int m : seen.marks) {
            if (seen.segs[0].address + m == address) {
                return seen.lengthAt(m);
            }
        }
        return 0;
    }

    int markBelow(int address) {
        int best = -1;
        for (int m : seen.marks) {
            if (seen.segs[0].address + m <= address) {
                best = (int) seen.segs[0].address + m;
            }
        }
        return best;
    }
}
