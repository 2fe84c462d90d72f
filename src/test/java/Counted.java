/** A GuardedGrammar whose calls are counted: a test may ask nothing behind the 512th one. */
final class Counted {
    private static final int MOST = 512;

    private final GuardedGrammar x = new GuardedGrammar();
    private int calls = 0;

    /** How many calls may still be made. */
    int left() {
        return MOST - calls;
    }

    private GuardedGrammar next() {
        calls++;
        if (calls > MOST) {
            throw new AssertionError("more than " + MOST + " calls of one object");
        }
        return x;
    }

    int leaf(int what) {
        return next().leaf(what);
    }

    int variable(int v) {
        return next().variable(v);
    }

    int join(int a, int b, boolean either) {
        return next().join(a, b, either);
    }

    int knot(int v, int a) {
        return next().knot(v, a);
    }

    void clear() {
        next().clear();
    }

    int terms() {
        return next().terms();
    }

    int fault(int term) {
        return next().fault(term);
    }

    int type(int term, int part) {
        return next().type(term, part);
    }

    boolean put(int letter) {
        return next().put(letter);
    }

    boolean cut(int n) {
        return next().cut(n);
    }

    int length() {
        return next().length();
    }

    int letter(int i) {
        return next().letter(i);
    }

    int read(int term) {
        return next().read(term);
    }

    int stopped() {
        return next().stopped();
    }

    int trace() {
        return next().trace();
    }

    int step(int i) {
        return next().step(i);
    }

    long count(int term, int n) {
        return next().count(term, n);
    }

    void find(int term, int n, long number) {
        next().find(term, n, number);
    }
}
