/** A FaultLoom that counts its calls: a test that goes beyond the 512th would test what is free. */
final class Loom {
    static final int CALL_LIMIT = 512;

    private final FaultLoom x = new FaultLoom();
    private int calls;

    private FaultLoom next() {
        if (++calls > CALL_LIMIT) throw new IllegalStateException("a test makes more than 512 calls on one object");
        return x;
    }

    int callsLeft() {
        return CALL_LIMIT - calls;
    }

    int put(int op, int a, int b, int c) {
        return next().put(op, a, b, c);
    }

    int handler(int from, int to, int mask, int at) {
        return next().handler(from, to, mask, at);
    }

    int clear() {
        return next().clear();
    }

    boolean start() {
        return next().start();
    }

    int step(int n) {
        return next().step(n);
    }

    int word(int r) {
        return next().word(r);
    }

    long wide(int r) {
        return next().wide(r);
    }

    double single(int r) {
        return next().single(r);
    }

    double real(int r) {
        return next().real(r);
    }

    int kind(int r) {
        return next().kind(r);
    }

    int size(int r) {
        return next().size(r);
    }

    long cell(int r, int i) {
        return next().cell(r, i);
    }

    double point(int r, int i) {
        return next().point(r, i);
    }

    long field(int r, int what) {
        return next().field(r, what);
    }

    boolean same(int r, int q) {
        return next().same(r, q);
    }

    int told(int i) {
        return next().told(i);
    }

    int state(int what) {
        return next().state(what);
    }
}
