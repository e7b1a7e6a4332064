/** A WideNet whose calls are counted: what it answers beyond the 512th is free, so no test may lean on that. */
final class Net {
    static final int MOST_CALLS = 512;

    private final WideNet net;
    private int calls = 0;

    Net(int seed) {
        net = new WideNet(seed);
    }

    int calls() {
        return calls;
    }

    private WideNet counted() {
        calls++;
        if (calls > MOST_CALLS) {
            throw new IllegalStateException("the test makes more calls than the document allows");
        }
        return net;
    }

    int join(int d) {
        return counted().join(d);
    }

    int send(int d, long payload, int n, boolean confirmed, boolean check) {
        return counted().send(d, payload, n, confirmed, check);
    }

    int skip(int d, int n) {
        return counted().skip(d, n);
    }

    int queue(int d, long payload, int n) {
        return counted().queue(d, payload, n);
    }

    int tick(int n) {
        return counted().tick(n);
    }

    boolean hear(int k, int g) {
        return counted().hear(k, g);
    }

    boolean reach(int k) {
        return counted().reach(k);
    }

    boolean lose(int k) {
        return counted().lose(k);
    }

    boolean replay(int j) {
        return counted().replay(j);
    }

    boolean spoil(int k, int i, int x) {
        return counted().spoil(k, i, x);
    }

    int frames() {
        return counted().frames();
    }

    int length(int k) {
        return counted().length(k);
    }

    int octet(int k, int i) {
        return counted().octet(k, i);
    }

    int goal(int k) {
        return counted().goal(k);
    }

    int state(int d) {
        return counted().state(d);
    }

    int received(int d, boolean up) {
        return counted().received(d, up);
    }

    long payload(int d, boolean up, int i) {
        return counted().payload(d, up, i);
    }

    int tally(int d, int what) {
        return counted().tally(d, what);
    }
}
