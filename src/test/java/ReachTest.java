import java.util.Arrays;

/** Promise 8: reach, and what a device does with an ACCEPT. */
public final class ReachTest {
    private ReachTest() {
    }

    public static void main(String[] args) {
        noSuchFrame();
        framesUp();
        leaves();
        reachesOneThatDoesNotWait();
        acceptTaken();
        acceptWindow();
        serialMustBeGreater();
        serialZeroAtFirst();
        serialOfThreeBytes();
        addressOfTheAccept();
        ownNonceMakesTheKeys();
        spoiledAccept();
        otherHead();
        lengthOfAnAccept();
        dataWhileJoining();
        acceptWhileIn();
        acceptWhileOut();
        refusedChangesNothing();
        Due.end();
    }

    /** Device 0 joins at the time 0, and its ACCEPT is the only frame under way at the time 1. */
    private static Net accepting() {
        Net x = Scene.fresh();
        x.join(0);
        x.hear(0, 0);
        x.lose(0);
        x.tick(1);
        return x;
    }

    private static void noSuchFrame() {
        Due.by("Promise 8: false when there is no such frame");
        Net x = Scene.fresh();
        Due.is("nothing under way", x.reach(0), false);
        Net y = accepting();
        for (int k : new int[] {-1, 1, 2, 12, Integer.MIN_VALUE, Integer.MAX_VALUE}) {
            Due.is("frame " + k, y.reach(k), false);
        }
        Scene.fill(y);
        Due.is("a thirteenth", y.reach(12), false);
        Due.is("the last of twelve", y.reach(11), true);
        Due.is("it is gone", y.reach(11), false);
    }

    private static void framesUp() {
        Due.by("Promise 8: false when it is UP");
        Net x = Scene.fresh();
        x.join(0);
        x.tick(1);
        Due.is("a JOIN", x.reach(0), false);
        Due.is("it stays", x.frames(), 1);
        Net y = Scene.joined(0);
        y.send(0, 1, 0, true, false);
        y.tick(1);
        Scene.spoilInto(y, 0, Scene.downFrame(0, 32, 0, 0, 0, 0));
        Due.is("one that looks like a frame down", y.reach(0), false);
        Due.is("it stays", y.frames(), 1);
        Due.is("the device waits", y.state(0), 12);
    }

    private static void leaves() {
        Due.by("Promise 8: The k-th frame under way leaves, and reaches its device. Answers true");
        Net x = Scene.fresh();
        x.join(0);
        x.hear(0, 0);
        x.tick(1);
        x.join(2);
        Due.is("reach", x.reach(1), true);
        Due.is("frames", x.frames(), 2);
        Scene.bytes("the one before stays", x, 0, Scene.joinFrame(0, 1));
        Scene.bytes("the one behind moves up", x, 1, Scene.joinFrame(2, 1));
        Due.is("the device took it", x.state(0), 2);
        Due.is("the other did not", x.state(2), 11);
    }

    private static void reachesOneThatDoesNotWait() {
        Due.by("Promise 8: true also when the device makes nothing of it");
        Net x = accepting();
        x.replay(0);
        x.reach(0);
        Due.is("IN, and does not wait", x.state(0), 2);
        Due.is("reach", x.reach(0), true);
        Due.is("it left", x.frames(), 0);
        Due.is("state", x.state(0), 2);
    }

    private static void acceptTaken() {
        Due.by("Terms: it is IN with the session of that serial, address and its nonce, and waits no more");
        for (int d = 0; d < 3; d++) {
            Net x = Scene.fresh();
            x.join(d);
            x.hear(0, 0);
            x.lose(0);
            x.tick(1);
            Due.is("JOINING", x.state(d), 11);
            x.reach(0);
            Due.is("IN", x.state(d), 2);
            Due.is("its first count", x.send(d, 3, 1, false, false), 0);
            Scene.bytes("with the session's keys", x, 0, Scene.upFrame(d, false, false, 0, 3, 1));
        }
    }

    private static void acceptWindow() {
        Due.by("Terms: A frame down that reaches it while it waits, at the time T + 1 or T + 2 (an ACCEPT)");
        int[] want = {11, 2, 2, 0, 0};
        for (int since = 0; since <= 4; since++) {
            Net x = accepting();
            x.tick(2);
            Due.is("OUT", x.state(0), 0);
            x.join(0);
            if (since > 0) {
                x.tick(since);
            }
            x.reach(0);
            Due.is("at T + " + since, x.state(0), want[since]);
        }
    }

    private static void serialMustBeGreater() {
        Due.by("Terms: whose serial is greater than the greatest that it took");
        int[][] notTaken = {{1, 0}, {1, 1}, {2, 1}, {256, 255}, {256, 256}, {65536, 1}, {0xffffff, 0xffffff}};
        for (int[] pair : notTaken) {
            Due.is("serial " + pair[1] + " behind " + pair[0], acceptBehindAnother(pair[0], pair[1]), 11);
        }
        int[][] taken = {{1, 2}, {1, 256}, {255, 256}, {65535, 65536}, {0xfffffe, 0xffffff}};
        for (int[] pair : taken) {
            Due.is("serial " + pair[1] + " behind " + pair[0], acceptBehindAnother(pair[0], pair[1]), 2);
        }
    }

    /** What device 0 is when an ACCEPT with the first serial reached it, and, as it joins again, one with the second. */
    private static int acceptBehindAnother(int first, int second) {
        Net x = accepting();
        x.replay(0);
        Scene.spoilInto(x, 0, Scene.acceptFrame(0, first, 1));
        x.reach(0);
        Due.is("serial " + first, x.state(0), 2);
        x.join(0);
        x.lose(1);
        x.tick(1);
        Scene.spoilInto(x, 0, Scene.acceptFrame(0, second, 1));
        x.reach(0);
        return x.state(0);
    }

    private static void serialZeroAtFirst() {
        Due.by("Terms: the greatest serial that it took (0 at first)");
        Net x = accepting();
        x.replay(0);
        Scene.spoilInto(x, 0, Scene.acceptFrame(0, 0, 1));
        x.reach(0);
        Due.is("serial 0", x.state(0), 11);
        x.reach(0);
        Due.is("serial 1", x.state(0), 2);
    }

    private static void serialOfThreeBytes() {
        Due.by("Terms: the server's SERIAL (three bytes)");
        for (int serial : new int[] {255, 256, 65536, 0x8a9bac, 0xffffff}) {
            Net x = accepting();
            x.replay(0);
            Scene.spoilInto(x, 0, Scene.acceptFrame(0, serial, 1));
            x.reach(0);
            Due.is("serial " + serial, x.state(0), 2);
            x.lose(0);
            x.send(0, 5, 2, true, false);
            Scene.bytes("its keys", x, 0, Crypt.dataFrame(Crypt.keys(Crypt.root(Scene.SEED, 0), serial, 1), 128,
                Crypt.address(0, 1), 0, 0, new int[0], Crypt.lowest(5, 2)));
        }
    }

    private static void addressOfTheAccept() {
        Due.by("Terms: the ADDRESS (four bytes), that the ACCEPT tells");
        long address = 0xfedcba98L;
        Net x = accepting();
        Scene.spoilInto(x, 0, Crypt.acceptFrame(Crypt.root(Scene.SEED, 0), 1, address));
        x.reach(0);
        Due.is("state", x.state(0), 2);
        x.send(0, 5, 2, true, false);
        Scene.bytes("a frame with that address", x, 0, Crypt.dataFrame(Scene.firstKeys(0), 128, address, 0, 0,
            new int[0], Crypt.lowest(5, 2)));
    }

    private static void ownNonceMakesTheKeys() {
        Due.by("Terms: the session of that serial, address and its nonce");
        Net x = accepting();
        x.tick(2);
        x.join(0);
        x.tick(1);
        x.reach(0);
        Due.is("an ACCEPT that it never took", x.state(0), 2);
        x.lose(0);
        x.send(0, 7, 1, false, false);
        Scene.bytes("its own nonce makes the keys", x, 0, Crypt.dataFrame(
            Crypt.keys(Crypt.root(Scene.SEED, 0), 1, 2), 64, Crypt.address(0, 1), 0, 0, new int[0],
            Crypt.lowest(7, 1)));
        x.hear(0, 0);
        Due.is("the server has other keys", x.received(0, true), 0);
    }

    private static void spoiledAccept() {
        Due.by("Terms: an ACCEPT whose code is right");
        for (int i = 0; i < 17; i++) {
            Net x = accepting();
            for (int bit = 0; bit < 8; bit++) {
                x.replay(0);
                x.spoil(1, i, 1 << bit);
                Due.is("reach", x.reach(1), true);
                Due.is("byte " + i + ", bit " + bit, x.state(0), 11);
            }
            x.reach(0);
            Due.is("the whole one, behind byte " + i, x.state(0), 2);
        }
    }

    private static void otherHead() {
        Due.by("Terms: ACCEPT: 32; then the INVERSE of the sixteen bytes");
        byte[] root = Crypt.root(Scene.SEED, 0);
        byte[] twelve = new Crypt.Row().number(1, 3).add(19, 0, 0).number(Crypt.address(0, 1), 4).add(0, 1).done();
        byte[] code = Crypt.code(root, new Crypt.Row().add(33).all(twelve).done());
        byte[] sixteen = Crypt.inverse(root, new Crypt.Row().all(twelve).all(code).done());
        Net x = accepting();
        Scene.spoilInto(x, 0, new Crypt.Row().add(33).all(sixteen).done());
        x.reach(0);
        Due.is("a code that is right for another head", x.state(0), 11);
    }

    private static void lengthOfAnAccept() {
        Due.by("Terms: an ACCEPT of 17 bytes");
        for (int length = 15; length <= 19; length++) {
            Net x = Scene.joined(0);
            x.queue(0, 0, length - 13);
            Scene.ask(x, 0, false, false);
            x.tick(2);
            x.join(0);
            x.lose(1);
            x.tick(1);
            byte[] accept = Scene.acceptFrame(0, 2, 2);
            Scene.spoilInto(x, 0, Arrays.copyOf(accept, length));
            Due.is("reach", x.reach(0), true);
            Due.is("length " + length, x.state(0), length == 17 ? 2 : 11);
        }
    }

    private static void dataWhileJoining() {
        Due.by("Terms: JOINING: an ACCEPT. All other frames do nothing");
        Net x = Scene.joined(0);
        x.queue(0, 77, 4);
        Scene.ask(x, 0, true, false);
        x.reach(0);
        x.join(0);
        x.lose(0);
        x.tick(1);
        x.replay(1);
        Due.is("a frame of 17 bytes", x.length(0), 17);
        x.reach(0);
        Due.is("state", x.state(0), 11);
        Due.is("received", x.received(0, false), 1);
        Due.is("acknowledged", x.tally(0, 0), 1);
    }

    private static void acceptWhileIn() {
        Due.by("Terms: IN: a DATA frame. All other frames do nothing");
        Net x = Scene.joined(0);
        x.join(0);
        x.hear(0, 0);
        x.lose(0);
        x.tick(1);
        x.replay(0);
        x.reach(0);
        x.send(0, 1, 1, true, false);
        x.lose(1);
        x.tick(1);
        Scene.spoilInto(x, 0, Scene.acceptFrame(0, 9, 7));
        Due.is("reach", x.reach(0), true);
        Due.is("it waits on", x.state(0), 12);
        x.tick(2);
        Scene.bytes("in its session", x, 0, Crypt.dataFrame(Crypt.keys(Crypt.root(Scene.SEED, 0), 2, 2), 128,
            Crypt.address(0, 2), 0, 0, new int[0], Crypt.lowest(1, 1)));
        x.tick(50);
        Scene.clear(x);
        x.join(0);
        x.hear(0, 0);
        x.lose(0);
        x.tick(1);
        x.reach(0);
        Due.is("that serial was not taken: 3 is greater", x.state(0), 2);
    }

    private static void acceptWhileOut() {
        Due.by("Terms: a frame that reaches a device that is OUT does nothing");
        Net x = accepting();
        x.tick(2);
        Due.is("OUT", x.state(0), 0);
        Due.is("reach", x.reach(0), true);
        Due.is("still OUT", x.state(0), 0);
        x.join(0);
        x.tick(1);
        x.replay(1);
        x.reach(1);
        Due.is("its serial was not taken then", x.state(0), 2);
    }

    private static void refusedChangesNothing() {
        Due.by("Promise 8: a reach that is refused changes nothing");
        Net x = accepting();
        x.join(1);
        x.reach(-1);
        x.reach(1);
        x.reach(2);
        Due.is("frames", x.frames(), 2);
        Due.is("state of 0", x.state(0), 11);
        Due.is("state of 1", x.state(1), 11);
        Scene.bytes("the ACCEPT", x, 0, Scene.acceptFrame(0, 1, 1));
        Scene.bytes("the JOIN", x, 1, Scene.joinFrame(1, 1));
        x.reach(0);
        Due.is("it is still good", x.state(0), 2);
    }
}
