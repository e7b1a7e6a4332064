/** Promise 7: hear, and what the server does with a JOIN. */
public final class HearTest {
    private HearTest() {
    }

    public static void main(String[] args) {
        noSuchFrame();
        noSuchGateway();
        framesDown();
        staysUnderWay();
        nothingToBeMadeOf();
        joinIsAccepted();
        acceptsOfManySeeds();
        nonceMustBeGreater();
        nonceZeroIsGreaterThanNone();
        nonceOfEachDevice();
        bothBytesOfTheNonce();
        serialCountsAll();
        addressCountsSessions();
        spoiledJoin();
        forgedJoin();
        lengthOfAJoin();
        noDeviceThere();
        acceptAndNothingElse();
        twoJoinsBeforeTick();
        oldSessionIsGone();
        refusedChangesNothing();
        Due.end();
    }

    private static int sessions(Net x) {
        return x.tally(0, 3) + x.tally(1, 3) + x.tally(2, 3);
    }

    private static void noSuchFrame() {
        Due.by("Promise 7: false when there is no such frame");
        Net x = Scene.fresh();
        Due.is("nothing under way", x.hear(0, 0), false);
        x.join(0);
        for (int k : new int[] {-1, 1, 2, 12, Integer.MIN_VALUE, Integer.MAX_VALUE}) {
            Due.is("frame " + k, x.hear(k, 0), false);
        }
        Due.is("the only frame", x.hear(0, 0), true);
        Scene.fill(x);
        Due.is("the last of twelve", x.hear(11, 1), true);
        Due.is("a thirteenth", x.hear(12, 1), false);
        Scene.clear(x);
        Due.is("one that was lost", x.hear(0, 0), false);
    }

    private static void noSuchGateway() {
        Due.by("Promise 7: false when there is no such gateway");
        Net x = Scene.fresh();
        x.join(0);
        for (int g : new int[] {-1, 2, 3, Integer.MIN_VALUE, Integer.MAX_VALUE}) {
            Due.is("gateway " + g, x.hear(0, g), false);
        }
        Due.is("nothing was heard", sessions(x), 0);
        Due.is("gateway 0", x.hear(0, 0), true);
        Due.is("gateway 1", x.hear(0, 1), true);
    }

    private static void framesDown() {
        Due.by("Promise 7: false when it is DOWN");
        Net x = Scene.fresh();
        x.join(0);
        x.hear(0, 0);
        x.tick(1);
        Due.is("goal", x.goal(1), 0);
        Due.is("an ACCEPT", x.hear(1, 0), false);
        x.reach(1);
        x.lose(0);
        Scene.ask(x, 0, true, false);
        Due.is("an ANSWER", x.hear(0, 1), false);
        Scene.spoilInto(x, 0, Scene.upFrame(0, true, false, 1, 0, 0));
        Due.is("one that looks like a frame up", x.hear(0, 0), false);
        x.tick(1);
        Due.is("nothing is due for it", x.frames(), 1);
    }

    private static void staysUnderWay() {
        Due.by("Promise 7: it stays under way. Answers true");
        Net x = Scene.fresh();
        x.join(0);
        x.join(1);
        for (int i = 0; i < 4; i++) {
            Due.is("hear", x.hear(0, i % 2), true);
            Due.is("frames", x.frames(), 2);
        }
        Scene.bytes("as it was", x, 0, Scene.joinFrame(0, 1));
        Scene.bytes("the other too", x, 1, Scene.joinFrame(1, 1));
    }

    private static void nothingToBeMadeOf() {
        Due.by("Promise 7: true also when the server makes nothing of it");
        Net x = Scene.fresh();
        x.join(0);
        for (int i = 0; i < 8; i++) {
            x.spoil(0, 0, 1 << i);
            Due.is("hear", x.hear(0, 0), true);
        }
        x.tick(1);
        Due.is("frames", x.frames(), 1);
    }

    private static void joinIsAccepted() {
        Due.by("Terms: JOIN with a right code: the device's session is a new one, and an ACCEPT is due");
        for (int d = 0; d < 3; d++) {
            Net x = Scene.fresh();
            x.join(d);
            Due.is("sessions before", x.tally(d, 3), 0);
            x.hear(0, d % 2);
            Due.is("sessions", x.tally(d, 3), 1);
            Due.is("of one device", sessions(x), 1);
            Due.is("nothing is sent before a tick", x.frames(), 1);
            x.tick(1);
            Due.is("goal", x.goal(1), d);
            Scene.bytes("ACCEPT", x, 1, Scene.acceptFrame(d, 1, 1));
        }
    }

    /** So many blocks that each entry of the tables of AES and of its inverse is used. */
    private static void acceptsOfManySeeds() {
        Due.by("Terms: ACCEPT: 32; then the INVERSE, with the root key, of the sixteen bytes");
        for (int seed = -40; seed < 40; seed++) {
            Net x = new Net(seed);
            for (int d = 0; d < 3; d++) {
                x.join(d);
                x.hear(d, 0);
            }
            x.tick(1);
            for (int d = 0; d < 3; d++) {
                Scene.bytes("seed " + seed, x, 3 + d,
                    Crypt.acceptFrame(Crypt.root(seed, d), d + 1, Crypt.address(d, 1)));
            }
            for (int d = 0; d < 3; d++) {
                x.reach(3);
                Due.is("it is taken", x.state(d), 2);
            }
        }
    }

    private static void nonceMustBeGreater() {
        Due.by("Terms: when its nonce is greater than the greatest, that is the greatest one. Otherwise nothing");
        int[] nonces = {5, 5, 4, 6, 255, 256, 254, 65534, 65535, 65535, 0, 65534};
        int[] want = {1, 1, 1, 2, 3, 4, 4, 5, 6, 6, 6, 6};
        Net x = Scene.fresh();
        x.join(0);
        for (int i = 0; i < nonces.length; i++) {
            Scene.spoilInto(x, 0, Scene.joinFrame(0, nonces[i]));
            x.hear(0, 0);
            Due.is("nonce " + nonces[i], x.tally(0, 3), want[i]);
        }
        Net y = Scene.fresh();
        y.join(0);
        y.hear(0, 0);
        y.tick(1);
        y.hear(0, 0);
        y.hear(0, 1);
        y.tick(1);
        Due.is("the same JOIN again makes nothing due", y.frames(), 2);
        Due.is("and no session", y.tally(0, 3), 1);
    }

    private static void nonceZeroIsGreaterThanNone() {
        Due.by("Terms: a greatest nonce (none at first)");
        Net x = Scene.fresh();
        x.join(0);
        Scene.spoilInto(x, 0, Scene.joinFrame(0, 0));
        x.hear(0, 0);
        Due.is("nonce 0 at first", x.tally(0, 3), 1);
        x.hear(0, 0);
        Due.is("nonce 0 again", x.tally(0, 3), 1);
        Scene.spoilInto(x, 0, Scene.joinFrame(0, 1));
        x.hear(0, 0);
        Due.is("nonce 1", x.tally(0, 3), 2);
    }

    private static void nonceOfEachDevice() {
        Due.by("Terms: THE SERVER has for each device a greatest nonce");
        Net x = Scene.fresh();
        x.join(0);
        x.tick(3);
        x.join(0);
        x.hear(1, 0);
        x.hear(0, 0);
        Due.is("a nonce that is not greater", x.tally(0, 3), 1);
        x.join(1);
        x.hear(2, 0);
        Due.is("the same nonce of another device", x.tally(1, 3), 1);
    }

    private static void bothBytesOfTheNonce() {
        Due.by("Terms: its NONCE (two bytes); the keys are made with it");
        byte[] root = Crypt.root(Scene.SEED, 0);
        Net x = Scene.fresh();
        x.join(0);
        Scene.spoilInto(x, 0, Scene.joinFrame(0, 0xabcd));
        x.hear(0, 0);
        x.tick(1);
        x.reach(1);
        x.lose(0);
        x.send(0, 7, 1, false, false);
        x.hear(0, 0);
        Due.is("the device has another nonce", x.received(0, true), 0);
        Scene.spoilInto(x, 0, Crypt.dataFrame(Crypt.keys(root, 1, 0xabcd), 64, Crypt.address(0, 1), 0, 0,
            new int[0], Crypt.lowest(7, 1)));
        x.hear(0, 0);
        Due.is("both bytes make the keys", x.received(0, true), 1);
    }

    private static void serialCountsAll() {
        Due.by("Terms: the serial, which counts all this from 1 on, is one more");
        Net x = Scene.fresh();
        int[] devices = {1, 0, 1, 2, 2, 0};
        int[] sessions = new int[3];
        for (int i = 0; i < devices.length; i++) {
            int d = devices[i];
            sessions[d]++;
            x.join(d);
            x.hear(0, 0);
            x.hear(0, 1);
            x.tick(1);
            Scene.bytes("serial " + (i + 1), x, 1, Scene.acceptFrame(d, i + 1, sessions[d]));
            x.reach(1);
            Due.is("it is taken", x.state(d), 2);
            x.lose(0);
        }
    }

    private static void addressCountsSessions() {
        Due.by("Terms: the address d + 1, the number of its sessions (with this one) mod 256, 0, 38");
        for (int d = 0; d < 3; d++) {
            Net x = Scene.fresh();
            for (int session = 1; session <= 3; session++) {
                Scene.bringIn(x, d);
                x.send(d, 1, 1, false, false);
                int[] want = {d + 1, session, 0, 38};
                for (int i = 0; i < 4; i++) {
                    Due.is("address byte " + i, x.octet(0, 1 + i), want[i]);
                }
                x.tick(3);
                x.lose(0);
            }
        }
    }

    private static void spoiledJoin() {
        Due.by("Terms: JOIN with a right code; otherwise nothing");
        for (int i = 0; i < 23; i++) {
            Net x = Scene.fresh();
            x.join(1);
            for (int bit = 0; bit < 8; bit++) {
                x.spoil(0, i, 1 << bit);
                Due.is("hear", x.hear(0, 0), true);
                Due.is("byte " + i + ", bit " + bit, sessions(x), 0);
                x.spoil(0, i, 1 << bit);
            }
            x.tick(1);
            Due.is("nothing is due", x.frames(), 1);
            x.hear(0, 0);
            Due.is("the whole one, behind byte " + i, x.tally(1, 3), 1);
        }
    }

    private static void forgedJoin() {
        Due.by("Terms: JOIN with eight bytes 0, a device there is and seven bytes 0");
        byte[] root = Crypt.root(Scene.SEED, 1);
        for (int i = 0; i <= 16; i++) {
            byte[] frame = Scene.joinFrame(1, 1);
            if (i != 9) {
                frame[i] ^= 5;
            }
            byte[] code = Crypt.code(root, java.util.Arrays.copyOf(frame, 19));
            System.arraycopy(code, 0, frame, 19, 4);
            Net x = Scene.fresh();
            x.join(1);
            Scene.spoilInto(x, 0, frame);
            Due.is("hear", x.hear(0, 0), true);
            Due.is("byte " + i + " is not as it must be, the code is right", x.tally(1, 3), i == 9 ? 1 : 0);
        }
    }

    private static void lengthOfAJoin() {
        Due.by("Terms: JOIN of 23 bytes");
        byte[] join = Scene.joinFrame(0, 2);
        for (int length = 12; length <= 22; length++) {
            Net x = Scene.joined(0);
            boolean check = length == 13 || length == 22;
            int more = length - 12 - (check ? 1 : 0);
            x.send(0, 0, Math.max(0, more - 1), true, check);
            Scene.spoilInto(x, 0, java.util.Arrays.copyOf(join, length));
            Due.is("hear", x.hear(0, 0), true);
            Due.is("length " + length, x.tally(0, 3), 1);
            x.tick(1);
            Due.is("nothing is due", x.frames(), 1);
        }
    }

    private static void noDeviceThere() {
        Due.by("Terms: JOIN with a device there is");
        for (int d : new int[] {3, 4, 127, 128, 255}) {
            Net x = Scene.fresh();
            x.join(2);
            Scene.spoilInto(x, 0, Scene.joinFrame(d, 1));
            Due.is("hear", x.hear(0, 0), true);
            Due.is("device " + d, sessions(x), 0);
            x.tick(1);
            Due.is("no ACCEPT", x.frames(), 1);
        }
        Net y = Scene.fresh();
        y.join(0);
        Scene.spoilInto(y, 0, Scene.joinFrame(2, 9));
        y.hear(0, 0);
        Due.is("the last device there is", y.tally(2, 3), 1);
        Due.is("it is that one's JOIN", y.tally(0, 3), 0);
    }

    private static void acceptAndNothingElse() {
        Due.by("Terms: an ACCEPT is due, and nothing else");
        Net x = Scene.joined(0);
        x.queue(0, 5, 1);
        x.send(0, 1, 1, false, true);
        x.tick(3);
        x.join(0);
        x.hear(0, 0);
        x.hear(1, 0);
        x.tick(1);
        Due.is("one frame more", x.frames(), 3);
        Scene.bytes("it is the ACCEPT", x, 2, Scene.acceptFrame(0, 2, 2));
        Due.is("the queue is as it was", x.queue(0, 6, 1), 2);
        x.tick(1);
        Due.is("no ANSWER later", x.frames(), 3);
    }

    private static void twoJoinsBeforeTick() {
        Due.by("Terms: an ACCEPT is due, for the session that is the new one");
        Net x = Scene.fresh();
        x.join(0);
        x.tick(3);
        x.join(0);
        x.join(1);
        x.hear(0, 0);
        x.hear(2, 0);
        x.hear(1, 0);
        Due.is("two sessions", x.tally(0, 3), 2);
        x.tick(1);
        Due.is("one ACCEPT each", x.frames(), 5);
        Scene.bytes("the later session", x, 3, Scene.acceptFrame(0, 3, 2));
        Scene.bytes("the other device", x, 4, Scene.acceptFrame(1, 2, 1));
    }

    private static void oldSessionIsGone() {
        Due.by("Terms: the device's session is a new one, with the greatest count up (none at first)");
        Net x = Scene.joined(0);
        x.skip(0, 300);
        x.send(0, 1, 1, true, false);
        x.tick(12);
        while (x.frames() > 1) {
            x.lose(1);
        }
        x.join(0);
        x.hear(1, 0);
        x.hear(0, 0);
        Due.is("the old session's frame", x.received(0, true), 0);
        x.tick(1);
        Due.is("an ACCEPT alone", x.frames(), 3);
        x.reach(2);
        Due.is("IN again", x.state(0), 2);
        x.hear(0, 0);
        Due.is("still the old session's", x.received(0, true), 0);
        Due.is("the first count", x.send(0, 2, 1, false, false), 0);
        x.hear(2, 0);
        Due.is("the new session's", x.payload(0, true, 0), 2);
    }

    private static void refusedChangesNothing() {
        Due.by("Promise 7: a hear that is refused changes nothing");
        Net x = Scene.joined(0);
        x.send(0, 1, 1, true, true);
        x.hear(0, -1);
        x.hear(0, 2);
        x.hear(1, 0);
        x.hear(-1, 0);
        Due.is("nothing is received", x.received(0, true), 0);
        x.tick(1);
        Due.is("nothing is due", x.frames(), 1);
        x.hear(0, 1);
        x.hear(0, 2);
        x.hear(0, -1);
        x.tick(1);
        Scene.bytes("one gateway is in the set", x, 1, Scene.downFrame(0, 35, 0, 1, 0, 0));
    }
}
