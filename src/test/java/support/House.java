/**
 * A TravelHouse whose calls are counted: what an object answers behind its 512th call is free, so no test may rest on it.
 */
final class House {
    static final int MOST_CALLS = 512;

    private final TravelHouse inner = new TravelHouse();
    private int calls = 0;

    int callsMade() {
        return calls;
    }

    /** For Inside, which puts on lines what no call puts there. */
    TravelHouse inner() {
        return inner;
    }

    int feed(int a, int b, int c, int d, int e) {
        calls++;
        return inner.feed(a, b, c, d, e);
    }

    int back(int n) {
        calls++;
        return inner.back(n);
    }

    int read() {
        calls++;
        return inner.read();
    }

    int program(int p, int what) {
        calls++;
        return inner.program(p, what);
    }

    int method(int p, int m, int what) {
        calls++;
        return inner.method(p, m, what);
    }

    int instruction(int p, int k, int what) {
        calls++;
        return inner.instruction(p, k, what);
    }

    boolean give(int h, int p) {
        calls++;
        return inner.give(h, p);
    }

    int start(int p, int h) throws IllegalArgumentException, IllegalStateException {
        calls++;
        return inner.start(p, h);
    }

    int step(int h, int n) throws IllegalArgumentException, IllegalStateException {
        calls++;
        return inner.step(h, n);
    }

    int pass(int h, int g) {
        calls++;
        return inner.pass(h, g);
    }

    boolean trouble(int h, int g, int how) {
        calls++;
        return inner.trouble(h, g, how);
    }

    boolean tick(int h) {
        calls++;
        return inner.tick(h);
    }

    boolean power(int h, int how) {
        calls++;
        return inner.power(h, how);
    }

    boolean giveUp(int t, int h) {
        calls++;
        return inner.giveUp(t, h);
    }

    int count(int what) {
        calls++;
        return inner.count(what);
    }

    int host(int h, int what) {
        calls++;
        return inner.host(h, what);
    }

    int at(int h, int i) {
        calls++;
        return inner.at(h, i);
    }

    int traveller(int t, int h, int what) {
        calls++;
        return inner.traveller(t, h, what);
    }

    int line(int t, int h, int i) {
        calls++;
        return inner.line(t, h, i);
    }

    int frame(int t, int h, int i, int what) {
        calls++;
        return inner.frame(t, h, i, what);
    }

    int value(int t, int h, int i, int k) {
        calls++;
        return inner.value(t, h, i, k);
    }

    int cell(int t, int h, int o, int k) {
        calls++;
        return inner.cell(t, h, o, k);
    }

    int board(int h, int k) {
        calls++;
        return inner.board(h, k);
    }

    int thing(int h, int n, int k) {
        calls++;
        return inner.thing(h, n, k);
    }

    int message(int h, int g, int i, int what) {
        calls++;
        return inner.message(h, g, i, what);
    }

    int pack(int t, int h) {
        calls++;
        return inner.pack(t, h);
    }

    int out(int k) {
        calls++;
        return inner.out(k);
    }

    int come(int h) throws IllegalArgumentException, IllegalStateException {
        calls++;
        return inner.come(h);
    }

    int place() {
        calls++;
        return inner.place();
    }
}
