import java.util.ArrayList;
import java.util.List;
import java.util.function.Consumer;

/** The class under test and the model side by side: each call goes to both, and the answers must agree. */
final class Both {
    private final Check check;
    private final String run;
    private final List<Consumer<ImageFile>> changes = new ArrayList<>();
    final ImageFile x = new ImageFile();
    final Model m = new Model();
    int calls;

    Both(Check check, String run) {
        this.check = check;
        this.run = run;
    }

    private void count() {
        calls++;
        if (calls > Hand.CALLS) {
            check.yes(run + " is longer than " + Hand.CALLS + " calls; the test", false);
        }
    }

    private int same(String call, int got, int want) {
        count();
        check.due(got == want ? call : run + ", call " + calls + ": " + call, got, want);
        return want;
    }

    private boolean same(String call, boolean got, boolean want) {
        return same(call, got ? 1 : 0, want ? 1 : 0) == 1;
    }

    void clear() {
        changes.add(ImageFile::clear);
        count();
        x.clear();
        m.clear();
    }

    void entry(int address) {
        changes.add(y -> y.entry(address));
        count();
        x.entry(address);
        m.entry(address);
    }

    void keep() {
        changes.add(ImageFile::keep);
        count();
        x.keep();
        m.keep();
    }

    void page(int power) {
        changes.add(y -> y.page(power));
        same("page(" + power + ")", x.page(power), m.page(power));
    }

    void segment(int s, int address, int more) {
        changes.add(y -> y.segment(s, address, more));
        same("segment(" + s + ", " + address + ", " + more + ")",
            x.segment(s, address, more), m.segment(s, address, more));
    }

    void drop(int s) {
        changes.add(y -> y.drop(s));
        same("drop(" + s + ")", x.drop(s), m.drop(s));
    }

    void put(int s, int n, long eight) {
        changes.add(y -> y.put(s, n, eight));
        same("put(" + s + ", " + n + ", " + eight + ")", x.put(s, n, eight), m.put(s, n, eight));
    }

    void mark(int offset, boolean on) {
        changes.add(y -> y.mark(offset, on));
        same("mark(" + offset + ", " + on + ")", x.mark(offset, on), m.mark(offset, on));
    }

    int write() {
        changes.add(ImageFile::write);
        return same("write()", x.write(), m.write());
    }

    void size() {
        same("size()", x.size(), m.size());
    }

    void byteAt(int k) {
        same("byteAt(" + k + ")", x.byteAt(k), m.byteAt(k));
    }

    void feed(int n, long eight) {
        changes.add(y -> y.feed(n, eight));
        same("feed(" + n + ", " + eight + ")", x.feed(n, eight), m.feed(n, eight));
    }

    void cut(int n) {
        changes.add(y -> y.cut(n));
        same("cut(" + n + ")", x.cut(n), m.cut(n));
    }

    void spoil(int k, int b) {
        changes.add(y -> y.spoil(k, b));
        same("spoil(" + k + ", " + b + ")", x.spoil(k, b), m.spoil(k, b));
    }

    int read() {
        changes.add(ImageFile::read);
        int fault = same("read()", x.read(), m.read());
        same("place()", x.place(), m.place());
        return fault;
    }

    void about(int s, int what) {
        same("about(" + s + ", " + what + ")", x.about(s, what), m.about(s, what));
    }

    void told(int what) {
        same("told(" + what + ")", x.told(what), m.told(what));
    }

    void lookAt(int address) {
        same("byteIn(" + address + ")", x.byteIn(address), m.byteIn(address));
        same("wordIn(" + address + ")", x.wordIn(address), m.wordIn(address));
        same("rights(" + address + ")", x.rights(address), m.rights(address));
        same("marked(" + address + ")", x.marked(address), m.marked(address));
        same("markBelow(" + address + ")", x.markBelow(address), m.markBelow(address));
    }

    /** All that told() and about() say of the READ image. */
    void lookOver() {
        for (int what = -1; what <= 5; what++) {
            told(what);
        }
        for (int s = -1; s <= 3; s++) {
            for (int what = -1; what <= 4; what++) {
                about(s, what);
            }
        }
    }

    /** The FILE byte by byte: the run's changes once more on new objects, as many as its bytes need calls. */
    void compareFiles() {
        int left = Hand.CALLS - changes.size();
        for (int k = 0; k < m.size() && left > 0; k += left) {
            ImageFile again = new ImageFile();
            for (Consumer<ImageFile> change : changes) {
                change.accept(again);
            }
            for (int i = k; i < Math.min(m.size(), k + left); i++) {
                int got = again.byteAt(i);
                check.due(got == m.byteAt(i) ? "" : run + ": byteAt(" + i + ") in the end", got, m.byteAt(i));
            }
        }
        check.yes(run + " leaves calls to look at its FILE", left > 0);
    }
}
