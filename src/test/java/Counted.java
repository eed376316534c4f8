/** A ParagraphSetter whose calls are counted: nothing is promised of one behind its 512th call. */
final class Counted {
    static final int PROMISED = 512;

    private final ParagraphSetter x = new ParagraphSetter();
    private int calls = 0;

    int calls() {
        return calls;
    }

    int type(int c) {
        calls++;
        return x.type(c);
    }

    int wipe() {
        calls++;
        return x.wipe();
    }

    int width(int c, int w) {
        calls++;
        return x.width(c, w);
    }

    int parameter(int i, int v) {
        calls++;
        return x.parameter(i, v);
    }

    int define(int m) {
        calls++;
        return x.define(m);
    }

    int pattern() {
        calls++;
        return x.pattern();
    }

    int paragraph() {
        calls++;
        return x.paragraph();
    }

    long cost() {
        calls++;
        return x.cost();
    }

    int line(int i, int what) {
        calls++;
        return x.line(i, what);
    }

    int character(int i, int k) {
        calls++;
        return x.character(i, k);
    }

    int place(int i, int k) {
        calls++;
        return x.place(i, k);
    }

    int count(int what) {
        calls++;
        return x.count(what);
    }
}
