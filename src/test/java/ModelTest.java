import java.util.ArrayList;
import java.util.Arrays;
import java.util.Collections;
import java.util.List;
import java.util.Random;

/** Promises 1 to 24 against the model: runs of calls, and files of many shapes, from fixed seeds. */
public final class ModelTest {
    private static final Check CHECK = new Check("ModelTest");
    private static final int[] SEEN = new int[31];
    private static final int[] REFUSED = new int[7];
    private static final int[] EDGES = {
        -1, 0, 1, 2, 3, 4, 5, 6, 7, 8, 27, 28, 31, 32, 51, 52, 53, 56, 64, 243, 4095, 4096, 4097, 8192,
        16383, 16384, 16385, 32767, 32768, 32769, 65536, 131067, 131068, 131070, 131071, 131072, 131073,
        Integer.MAX_VALUE, Integer.MIN_VALUE
    };

    private final Random random;
    private final Both both;

    private ModelTest(String kind, int seed) {
        random = new Random(seed);
        both = new Both(CHECK, kind + " " + seed);
    }

    public static void main(String[] args) {
        for (int seed = 0; seed < 1500; seed++) {
            new ModelTest("calls", seed).runOfCalls();
        }
        for (int seed = 0; seed < 12000; seed++) {
            new ModelTest("file", seed).runOfFile();
        }
        for (int seed = 0; seed < 600; seed++) {
            new ModelTest("pages", seed).runOfPages();
        }
        for (int fault = 0; fault <= 30; fault++) {
            CHECK.yes("fault " + fault + " was met", SEEN[fault] >= 10 || fault == 20);
        }
        for (int fault = 1; fault <= 6; fault++) {
            CHECK.yes("write() refused by " + fault, REFUSED[fault] >= 10);
        }
        System.out.println("faults met: " + Arrays.toString(SEEN));
        System.out.println("writes refused: " + Arrays.toString(REFUSED));
        CHECK.finish();
    }

    private int below(int n) {
        return random.nextInt(n);
    }

    private boolean chance(int percent) {
        return below(100) < percent;
    }

    private int edge() {
        return EDGES[below(EDGES.length)];
    }

    private int address() {
        switch (below(6)) {
            case 0: return 131072 - 1 - below(40);
            case 1: return edge();
            case 2: return below(131072);
            default: return 2 * below(40);
        }
    }

    private void read() {
        SEEN[both.read()]++;
    }

    private void write() {
        int answer = both.write();
        if (answer < 0) {
            REFUSED[-answer]++;
        }
    }

    private void look(int times) {
        both.lookOver();
        for (int i = 0; i < times; i++) {
            int s = below(3);
            Model.Seg seg = both.m.seen.segs[s];
            both.lookAt(seg == null || chance(20) ? address()
                : (int) (chance(50) ? seg.address : seg.end()) + below(12) - 6);
        }
    }

    // Runs of calls

    private void runOfCalls() {
        while (both.calls < 400) {
            for (int i = below(30); i > 0; i--) {
                changeMade();
            }
            if (chance(70)) {
                mendMade();
            }
            write();
            for (int i = below(4); i > 0; i--) {
                changeFile();
            }
            read();
            look(1);
            if (chance(20)) {
                both.keep();
            }
        }
        both.compareFiles();
    }

    private void changeMade() {
        switch (below(12)) {
            case 0: both.entry(address()); break;
            case 1: both.page(chance(80) ? below(7) : edge()); break;
            case 2:
            case 3: both.segment(below(4) - below(2), address(), chance(60) ? 0 : chance(50) ? below(50) : edge()); break;
            case 4: both.drop(chance(30) ? below(3) : edge()); break;
            case 5:
            case 6:
            case 7: both.put(chance(95) ? below(3) : edge(), chance(90) ? 2 * below(5) : edge(), random.nextLong()); break;
            case 8:
            case 9:
            case 10: both.mark(chance(80) ? below(24) : edge(), chance(70)); break;
            default: if (chance(10)) { both.clear(); }
        }
    }

    /** Calls that bring the MADE image nearer to a good one. */
    private void mendMade() {
        Model.Img img = both.m.made;
        both.segment(0, 2 * below(100), 0);
        both.put(0, 2, random.nextLong());
        if (img.segs[0].bytes.length % 2 != 0) {
            both.put(0, 1, random.nextLong());
        }
        if (img.segs[1] != null) {
            both.segment(1, 30000 + below(100), 0);
        }
        if (img.segs[2] != null) {
            both.segment(2, 60000 + below(100), below(3) * 7);
        }
        for (int i = 0; i < 20 && img.bad4() >= 0; i++) {
            both.mark(img.bad4(), false);
        }
        if (!img.marks.isEmpty()) {
            both.entry((int) img.segs[0].address + img.marks.last());
        }
    }

    private void changeFile() {
        switch (below(6)) {
            case 0: both.feed(chance(80) ? 1 + below(8) : edge(), random.nextLong()); break;
            case 1: both.cut(chance(80) ? Math.max(0, both.m.size() - below(10)) : edge()); break;
            case 2: both.size(); break;
            case 3: both.byteAt(chance(50) ? edge() : below(300)); break;
            default: both.spoil(chance(80) ? below(200) : edge(), chance(50) ? below(9) : edge());
        }
    }

    // Files of many shapes

    private static final class Chunk {
        int length;
        int page = 1;
        long address;
        int begin;
    }

    private void runOfFile() {
        RawFile raw = anyFile();
        for (int i = chance(30) ? 0 : 1 + below(2); i > 0; i--) {
            spoilNumber(raw);
        }
        if (chance(70)) {
            mendSum(raw);
        }
        if (chance(2)) {
            raw.bytes[36] ^= 1;
        }
        if (chance(5)) {
            raw.cut(below(raw.bytes.length + 1));
        }
        for (int k = 0; k < raw.bytes.length; k += 8) {
            int n = Math.min(8, raw.bytes.length - k);
            both.feed(n, raw.highest(k, n));
        }
        read();
        look(8);
        both.keep();
        write();
        both.compareFiles();
        if (chance(30)) {
            both.spoil(below(Math.max(1, both.m.size())), 1 << below(8));
            read();
            look(1);
        }
    }

    /** A file that is good, or nearly so: table, segments and note at any places, rows in any order. */
    private RawFile anyFile() {
        Model.Img img = anyImage();
        int rows = 1;
        for (Model.Seg seg : img.segs) {
            rows += seg == null ? 0 : 1;
        }
        int empty = chance(30) ? 1 + below(Math.min(3, 8 - rows)) : 0;
        Chunk[] chunks = new Chunk[5];
        List<Chunk> order = new ArrayList<>();
        byte[] markBytes = img.markBytes();
        for (int i = 0; i < 5; i++) {
            Chunk chunk = new Chunk();
            chunks[i] = chunk;
            chunk.length = 0;
            if (i < 3 && img.segs[i] != null) {
                chunk.length = img.segs[i].bytes.length;
                chunk.page = 1 << below(6);
                chunk.address = img.segs[i].address;
            } else if (i == 3) {
                chunk.length = 28 + (markBytes.length + 3) / 4 * 4;
                chunk.page = 4;
            } else if (i == 4) {
                chunk.length = 32 * (rows + empty);
                chunk.page = 4;
            }
            order.add(chunk);
        }
        if (chance(60)) {
            Collections.shuffle(order, random);
        }
        int at = 52;
        for (Chunk chunk : order) {
            while ((at - chunk.address) % chunk.page != 0) {
                at++;
            }
            chunk.begin = at;
            at += chunk.length;
        }
        return filled(img, chunks, RawFile.ofSize(at + below(4)), rows + empty);
    }

    private RawFile filled(Model.Img img, Chunk[] chunks, RawFile raw, int rows) {
        int table = chunks[4].begin;
        raw.head(img.entry & 0xffffffffL, table, img.shorts() > 0 ? 1 : 0, rows);
        List<long[]> all = new ArrayList<>();
        for (int s = 0; s < 3; s++) {
            Model.Seg seg = img.segs[s];
            if (seg != null) {
                int begin = chunks[s].begin;
                System.arraycopy(seg.bytes, 0, raw.bytes, begin, seg.bytes.length);
                all.add(new long[] {1, begin, seg.address, seg.address, seg.bytes.length,
                    seg.bytes.length + seg.more, Model.RIGHTS[s], chunks[s].page});
            }
        }
        byte[] markBytes = img.markBytes();
        int begin = chunks[3].begin;
        raw.note(begin, chunks[3].length, img.segs[0] == null ? 0 : img.segs[0].bytes.length / 2, img.sum());
        System.arraycopy(markBytes, 0, raw.bytes, begin + 28, markBytes.length);
        all.add(new long[] {4, begin, 0, 0, chunks[3].length, 0, 4, 1 << below(13)});
        while (all.size() < rows) {
            all.add(new long[] {0, edge(), edge(), edge(), edge(), edge(), edge(), edge()});
        }
        if (chance(60)) {
            Collections.shuffle(all, random);
        }
        for (int i = 0; i < rows; i++) {
            raw.row(table + 32 * i, all.get(i));
        }
        return raw;
    }

    private Model.Img anyImage() {
        Model.Img img = new Model.Img();
        for (int s = 0; s < 3; s++) {
            if (s == 0 || chance(60)) {
                Model.Seg seg = new Model.Seg();
                img.segs[s] = seg;
                seg.bytes = new byte[chance(10) ? 0 : below(60)];
                random.nextBytes(seg.bytes);
                seg.address = chance(80) ? 300 * s + below(300) : 131071 - below(70);
                seg.more = s == 2 && chance(50) ? chance(50) ? below(300) : 32768 - below(2) : 0;
            }
        }
        Model.Seg text = img.segs[0];
        if (text.bytes.length == 0 || chance(95)) {
            text.bytes = Arrays.copyOf(text.bytes, (text.bytes.length + 2) / 2 * 2);
        }
        int m = 0;
        while (m + 1 < text.bytes.length) {
            int length = img.lengthAt(m);
            if (m + length <= text.bytes.length && chance(80) || chance(3)) {
                img.marks.add(m);
            }
            m += chance(97) ? length : 2;
        }
        if (!img.marks.isEmpty()) {
            img.entry = (int) text.address + (chance(50) ? img.marks.first() : img.marks.last());
        }
        return img;
    }

    /** Alters one number of the header, the table or the note. */
    private void spoilNumber(RawFile raw) {
        long table = raw.getU4(28);
        int rows = raw.bytes[44];
        boolean tableIsThere = rows > 0 && table >= 52 && table + 32L * rows <= raw.bytes.length;
        int at;
        int width = 4;
        if (chance(15) || !tableIsThere) {
            at = chance(50) ? below(52) : 4 * below(13);
            width = at < 20 ? 1 : at >= 40 ? 2 : 4;
            width = Math.min(width, 52 - at);
        } else if (chance(70)) {
            at = (int) table + 4 * below(8 * rows);
        } else {
            at = noteNumber(raw, (int) table, rows);
            width = at % 4 == 0 ? 4 : 1;
        }
        long now = 0;
        for (int i = width - 1; i >= 0; i--) {
            now = now << 8 | raw.byteOrZero(at + i);
        }
        long changed = otherNumber(raw, now, (int) table, rows, tableIsThere);
        for (int i = 0; i < width; i++) {
            if (at + i < raw.bytes.length) {
                raw.bytes[at + i] = (byte) (changed >>> 8 * i);
            }
        }
    }

    private int noteNumber(RawFile raw, int table, int rows) {
        for (int i = 0; i < rows; i++) {
            int row = table + 32 * i;
            if (raw.getU4(row) == 4 && raw.getU4(row + 4) + 32 <= raw.bytes.length) {
                return (int) raw.getU4(row + 4) + (chance(50) ? 4 * below(8) : below(36));
            }
        }
        return table;
    }

    private long otherNumber(RawFile raw, long now, int table, int rows, boolean tableIsThere) {
        switch (below(6)) {
            case 0: return now + 1;
            case 1: return now - 1;
            case 2: return now ^ 1L << below(32);
            case 3: return now + 4L * (below(9) - 4);
            case 4: return tableIsThere ? raw.getU4(table + 4 * below(8 * rows)) : edge();
            default: return edge();
        }
    }

    private void mendSum(RawFile raw) {
        Model.Reading reading = new Model.Reading(raw.bytes);
        try {
            reading.image();
        } catch (Model.Fault fault) {
            if (fault.number == 29) {
                raw.u4((int) fault.at, reading.draft().sum());
            }
        }
    }

    // Long files, by pages of 4096

    private void runOfPages() {
        both.page(chance(70) ? 12 : 10);
        for (int s = 0; s < 3; s++) {
            if (s == 0 || chance(80)) {
                both.segment(s, 9000 * s + 2 * below(4500), s == 2 ? 3 * below(40) : 0);
                both.put(s, 8, random.nextLong() & ~0x0303030303030303L);
            }
        }
        both.mark(2, true);
        both.entry((int) both.m.made.segs[0].address + 2);
        if (chance(50)) {
            spreadOut(10);
        }
        write();
        RawFile raw = new RawFile(both.m.file.clone());
        int rows = raw.bytes[44];
        for (int i = 1 + below(2); i > 0; i--) {
            int row = 52 + 32 * (rows == 4 && chance(50) ? 1 : below(rows));
            int[] lengths = {4095, 4096, 4096, 4097, 8, 0, 5000};
            long length = lengths[below(lengths.length)];
            raw.u4(row + 16, length);
            if (chance(80)) {
                raw.u4(row + 20, length + (chance(30) ? edge() : 0));
            }
        }
        mendSum(raw);
        for (int k = 0; k < raw.bytes.length; k++) {
            if (raw.bytes[k] != both.m.file[k]) {
                both.spoil(k, raw.bytes[k]);
            }
        }
        read();
        look(5);
        both.keep();
        if (chance(70)) {
            spreadOut(120);
        }
        write();
        for (int i = 0; i < 3; i++) {
            both.put(2 - below(2), 1 + below(8), random.nextLong());
        }
        write();
        for (int i = 0; i < 2; i++) {
            both.feed(8, random.nextLong());
        }
        both.size();
        both.compareFiles();
    }

    /** Addresses by which the BYTES lie nearly as far apart in the FILE as they can. */
    private void spreadOut(int less) {
        Model.Img img = both.m.made;
        if (img.segs[0] == null) {
            return;
        }
        both.page(12);
        int at = 52 + 32;
        for (Model.Seg seg : img.segs) {
            at += seg == null ? 0 : 32;
        }
        for (int s = 0; s < 3; s++) {
            if (img.segs[s] != null) {
                int rest = Math.floorMod(at - 1 - below(less), 4096);
                both.segment(s, 16384 * s + rest, 0);
                at += Math.floorMod(rest - at, 4096) + img.segs[s].bytes.length;
            }
        }
        both.entry((int) img.segs[0].address + 2);
    }
}
