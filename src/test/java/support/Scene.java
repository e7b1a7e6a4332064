/** What the tests begin with, and what they do and look at again and again. */
final class Scene {
    static final int SEED = 77;
    static final int NONE = -1;
    /** The numbers just beside the devices 0 .. 2, and those farthest from them. */
    static final int[] NO_DEVICES = {-1, 3, Integer.MIN_VALUE, Integer.MAX_VALUE};

    private Scene() {
    }

    static Net fresh() {
        return new Net(SEED);
    }

    /** Device d is in, time is 1, and nothing is under way. */
    static Net joined(int d) {
        Net x = fresh();
        bringIn(x, d);
        return x;
    }

    /** Device d sends a JOIN that is heard, and its ACCEPT reaches it a tick later; both are gone then. */
    static void bringIn(Net x, int d) {
        x.join(d);
        x.hear(x.frames() - 1, 0);
        x.lose(x.frames() - 1);
        x.tick(1);
        x.reach(x.frames() - 1);
        Due.is("state of a device that was brought in", x.state(d), 2);
    }

    /** Device d sends a frame of no payload that is heard, and a tick later what is due is under way. */
    static void ask(Net x, int d, boolean confirmed, boolean check) {
        x.send(d, 0, 0, confirmed, check);
        x.hear(x.frames() - 1, 0);
        x.lose(x.frames() - 1);
        x.tick(1);
    }

    static void clear(Net x) {
        while (x.lose(0)) {
            continue;
        }
    }

    static void fill(Net x) {
        while (x.replay(0)) {
            continue;
        }
    }

    static void bytes(String what, Net x, int k, byte[] want) {
        Due.is(what + ": length", x.length(k), want.length);
        for (int i = 0; i < want.length; i++) {
            Due.is(what + ": octet " + i, x.octet(k, i), want[i] & 255);
        }
    }

    /** Changes the k-th frame under way, byte by byte, into these bytes. */
    static void spoilInto(Net x, int k, byte[] want) {
        Due.is("length of what is spoiled into another frame", x.length(k), want.length);
        for (int i = 0; i < want.length; i++) {
            int change = x.octet(k, i) ^ (want[i] & 255);
            if (change != 0) {
                Due.is("spoil", x.spoil(k, i, change), true);
            }
        }
    }

    /** The keys of a session that was the first one for the server and the device. */
    static byte[][] firstKeys(int d) {
        return Crypt.keys(Crypt.root(SEED, d), 1, 1);
    }

    static byte[] joinFrame(int d, int nonce) {
        return Crypt.joinFrame(Crypt.root(SEED, d), d, nonce);
    }

    static byte[] acceptFrame(int d, int serial, int sessions) {
        return Crypt.acceptFrame(Crypt.root(SEED, d), serial, Crypt.address(d, sessions));
    }

    /** A frame up in such a first session. */
    static byte[] upFrame(int d, boolean confirmed, boolean check, long count, long payload, int n) {
        return Crypt.dataFrame(firstKeys(d), confirmed ? 128 : 64, Crypt.address(d, 1), check ? 1 : 0, count,
            check ? new int[] {2} : new int[0], Crypt.lowest(payload, n));
    }

    /** A frame down in such a first session; it checks, if control asks for three options. */
    static byte[] downFrame(int d, int control, long count, int gateways, long payload, int n) {
        return Crypt.dataFrame(firstKeys(d), 96, Crypt.address(d, 1), control, count,
            control % 16 == 3 ? new int[] {2, 10, gateways} : new int[0], Crypt.lowest(payload, n));
    }

    /** The frame with byte i as this value, and with the code that is right then in device 0's first session. */
    static byte[] forged(byte[] frame, int direction, int count, int i, int value) {
        byte[] before = java.util.Arrays.copyOf(frame, frame.length - 4);
        before[i] = (byte) value;
        return withCode(before, direction, count);
    }

    /** These bytes and behind them the code that is right in device 0's first session. */
    static byte[] withCode(byte[] before, int direction, long count) {
        byte[] code = Crypt.dataCode(firstKeys(0)[0], direction, Crypt.address(0, 1), count, before);
        return new Crypt.Row().all(before).all(code).done();
    }
}
