/** Promises 9 to 15: lose, replay, spoil, frames, length, octet and goal. */
public final class AirTest {
    private static final int[] NO_BYTES = {0, -1, 256, 257, -255, Integer.MIN_VALUE, Integer.MAX_VALUE};

    private AirTest() {
    }

    public static void main(String[] args) {
        loseNone();
        loseKeepsTheOrder();
        loseIsRemembered();
        loseRefused();
        replayNone();
        replayTheLatestEight();
        replayComesLast();
        replayWhenTwelve();
        replayRemembersLostOnes();
        replayRemembersEachSending();
        replayForgetsCopies();
        replayForgetsChanges();
        replayGoesToTheSameGoal();
        spoilNone();
        spoilBytes();
        spoilFactors();
        spoilChangesOneByte();
        spoilRefused();
        framesCounts();
        lengths();
        octets();
        goals();
        Due.end();
    }

    /** JOINs of all devices are under way. */
    private static Net threeJoins() {
        Net x = Scene.fresh();
        for (int d = 0; d < 3; d++) {
            x.join(d);
        }
        return x;
    }

    private static int[] noneOf(int frames) {
        return new int[] {-1, frames, frames + 1, 13, Integer.MIN_VALUE, Integer.MAX_VALUE};
    }

    // Promise 9

    private static void loseNone() {
        Due.by("Promise 9: false when there is none");
        Due.is("nothing under way", Scene.fresh().lose(0), false);
        Net x = threeJoins();
        for (int k : noneOf(3)) {
            Due.is("lose(" + k + ")", x.lose(k), false);
        }
        Due.is("all stay", x.frames(), 3);
        Scene.fill(x);
        Due.is("a thirteenth", x.lose(12), false);
        Due.is("the twelfth", x.lose(11), true);
        Due.is("it is gone", x.lose(11), false);
        Due.is("frames", x.frames(), 11);
    }

    private static void loseKeepsTheOrder() {
        Due.by("Promise 9: The k-th frame under way is lost. Answers true");
        int[][] left = {{1, 2}, {0, 2}, {0, 1}};
        for (int k = 0; k < 3; k++) {
            Net x = threeJoins();
            Due.is("lose(" + k + ")", x.lose(k), true);
            Due.is("frames", x.frames(), 2);
            for (int i = 0; i < 2; i++) {
                Scene.bytes("left behind lose(" + k + ")", x, i, Scene.joinFrame(left[k][i], 1));
            }
            Due.is("no third", x.length(2), -1);
            Due.is("the device waits on", x.state(k), 11);
        }
        Net y = threeJoins();
        Due.is("all are lost", y.lose(0) && y.lose(0) && y.lose(0), true);
        Due.is("frames", y.frames(), 0);
        Due.is("none is left", y.lose(0), false);
    }

    private static void loseIsRemembered() {
        Due.by("Terms: The eight frames that were sent last are remembered, also lost ones");
        Net x = threeJoins();
        Scene.clear(x);
        for (int j = 0; j < 3; j++) {
            x.replay(j);
            Scene.bytes("replay(" + j + ")", x, j, Scene.joinFrame(2 - j, 1));
        }
    }

    private static void loseRefused() {
        Due.by("Promise 9: a lose that is refused changes nothing");
        Net x = threeJoins();
        x.lose(-1);
        x.lose(3);
        for (int d = 0; d < 3; d++) {
            Scene.bytes("frame " + d, x, d, Scene.joinFrame(d, 1));
        }
        Due.is("frames", x.frames(), 3);
    }

    // Promise 10

    private static void replayNone() {
        Due.by("Promise 10: false when there is none");
        Net x = Scene.fresh();
        Due.is("nothing was sent", x.replay(0), false);
        for (int sent = 1; sent <= 10; sent++) {
            x.join(0);
            x.lose(0);
            x.tick(3);
            int remembered = Math.min(sent, 8);
            Due.is("as many as are remembered", x.replay(remembered), false);
            Due.is("one more", x.replay(remembered + 1), false);
            Due.is("the oldest", x.replay(remembered - 1), true);
            x.lose(0);
        }
        for (int j : new int[] {-1, -8, 8, 9, Integer.MIN_VALUE, Integer.MAX_VALUE}) {
            Due.is("replay(" + j + ")", x.replay(j), false);
        }
        Due.is("nothing is under way", x.frames(), 0);
    }

    private static void replayTheLatestEight() {
        Due.by("Terms: The eight frames that were sent last are remembered");
        Net x = Scene.fresh();
        for (int nonce = 1; nonce <= 10; nonce++) {
            x.join(0);
            x.lose(0);
            x.tick(3);
        }
        for (int j = 0; j < 8; j++) {
            Due.is("replay(" + j + ")", x.replay(j), true);
            Scene.bytes("the " + j + "-th", x, j, Scene.joinFrame(0, 10 - j));
        }
        Due.is("replay(8)", x.replay(8), false);
    }

    private static void replayComesLast() {
        Due.by("Promise 10: is under way once more, last. Answers true");
        Net x = threeJoins();
        Due.is("replay(2)", x.replay(2), true);
        Due.is("frames", x.frames(), 4);
        int[] devices = {0, 1, 2, 0};
        for (int k = 0; k < 4; k++) {
            Scene.bytes("frame " + k, x, k, Scene.joinFrame(devices[k], 1));
        }
        Due.is("it is heard", x.hear(3, 0) && x.tally(0, 3) == 1, true);
    }

    private static void replayWhenTwelve() {
        Due.by("Promise 10: false when twelve are under way");
        Net x = threeJoins();
        for (int i = 3; i < 12; i++) {
            Due.is("up to twelve", x.replay(0), true);
            Due.is("frames", x.frames(), i + 1);
        }
        for (int j = 0; j < 3; j++) {
            Due.is("a thirteenth", x.replay(j), false);
        }
        Due.is("frames", x.frames(), 12);
        Scene.bytes("the last one", x, 11, Scene.joinFrame(2, 1));
        x.lose(5);
        Due.is("there is room again", x.replay(1), true);
        Scene.bytes("in it", x, 11, Scene.joinFrame(1, 1));
        Due.is("no more room", x.replay(1), false);
    }

    private static void replayRemembersLostOnes() {
        Due.by("Terms: remembered, also lost ones: one that was sent when there were twelve");
        Net x = Scene.fresh();
        x.join(0);
        Scene.fill(x);
        x.join(1);
        x.lose(0);
        Due.is("replay", x.replay(0), true);
        Scene.bytes("the lost one", x, 11, Scene.joinFrame(1, 1));
        x.lose(0);
        Due.is("replay", x.replay(1), true);
        Scene.bytes("the one before", x, 11, Scene.joinFrame(0, 1));
    }

    private static void replayRemembersEachSending() {
        Due.by("Terms: The eight frames that were sent last, each time that one is sent again");
        Net x = Scene.joined(0);
        x.send(0, 1, 1, true, false);
        x.tick(12);
        Scene.clear(x);
        for (int j = 0; j < 4; j++) {
            x.replay(j);
            Scene.bytes("sent four times", x, j, Scene.upFrame(0, true, false, 0, 1, 1));
        }
        x.replay(4);
        Scene.bytes("behind them the ACCEPT", x, 4, Scene.acceptFrame(0, 1, 1));
        x.replay(5);
        Scene.bytes("and the JOIN", x, 5, Scene.joinFrame(0, 1));
        Due.is("six were sent", x.replay(6), false);
    }

    private static void replayForgetsCopies() {
        Due.by("Terms: but not those that were copied by a call");
        Net x = threeJoins();
        x.replay(2);
        x.replay(2);
        Due.is("three were sent", x.replay(3), false);
        for (int j = 0; j < 3; j++) {
            x.replay(j);
            Scene.bytes("replay(" + j + ")", x, 5 + j, Scene.joinFrame(2 - j, 1));
        }
    }

    private static void replayForgetsChanges() {
        Due.by("Terms: but not those that were changed by a call");
        Net x = Scene.fresh();
        x.join(0);
        x.spoil(0, 5, 200);
        x.hear(0, 0);
        x.replay(0);
        Scene.bytes("as it was sent", x, 1, Scene.joinFrame(0, 1));
        x.spoil(1, 6, 1);
        x.lose(1);
        x.replay(0);
        Scene.bytes("a copy's change", x, 1, Scene.joinFrame(0, 1));
        Due.is("the changed one is as it was changed", x.octet(0, 5), 200);
        Net y = Scene.joined(0);
        y.send(0, 1, 1, true, false);
        y.spoil(0, 9, 7);
        y.tick(3);
        Scene.bytes("what is sent again is not changed", y, 1, Scene.upFrame(0, true, false, 0, 1, 1));
        y.spoil(1, 9, 7);
        y.tick(3);
        Scene.bytes("nor by a change of that", y, 2, Scene.upFrame(0, true, false, 0, 1, 1));
    }

    private static void replayGoesToTheSameGoal() {
        Due.by("Promise 10: frames DOWN too");
        for (int d = 0; d < 3; d++) {
            Net x = Scene.fresh();
            x.join(d);
            x.hear(0, 0);
            x.tick(1);
            x.lose(1);
            Due.is("replay", x.replay(0), true);
            Due.is("goal", x.goal(1), d);
            Scene.bytes("the ACCEPT", x, 1, Scene.acceptFrame(d, 1, 1));
            x.reach(1);
            Due.is("it reaches", x.state(d), 2);
            Due.is("replay", x.replay(1), true);
            Due.is("goal of the JOIN", x.goal(1), 3);
        }
    }

    // Promise 11

    private static void spoilNone() {
        Due.by("Promise 11: false when there is no such frame");
        Due.is("nothing under way", Scene.fresh().spoil(0, 0, 1), false);
        Net x = threeJoins();
        for (int k : noneOf(3)) {
            Due.is("spoil of frame " + k, x.spoil(k, 0, 1), false);
        }
        Due.is("the last one", x.spoil(2, 0, 1), true);
        Scene.fill(x);
        Due.is("the twelfth", x.spoil(11, 0, 1), true);
        Due.is("a thirteenth", x.spoil(12, 0, 1), false);
    }

    private static void spoilBytes() {
        Due.by("Promise 11: false when there is no such byte");
        Net x = Scene.joined(0);
        x.queue(0, 0, 8);
        x.send(0, 0, 0, true, true);
        x.hear(0, 0);
        x.tick(1);
        x.join(1);
        int[] lengths = {13, 24, 23};
        for (int k = 0; k < 3; k++) {
            for (int i : new int[] {-1, lengths[k], lengths[k] + 1, 255, Integer.MIN_VALUE, Integer.MAX_VALUE}) {
                Due.is("byte " + i + " of " + lengths[k], x.spoil(k, i, 1), false);
            }
            Due.is("the first byte", x.spoil(k, 0, 1), true);
            Due.is("the last byte", x.spoil(k, lengths[k] - 1, 1), true);
        }
    }

    private static void spoilFactors() {
        Due.by("Promise 11: false when x is not 1 .. 255");
        Net x = threeJoins();
        for (int wrong : NO_BYTES) {
            Due.is("spoil with " + wrong, x.spoil(0, 0, wrong), false);
            Due.is("octet", x.octet(0, 0), 0);
        }
        Due.is("the least", x.spoil(0, 0, 1), true);
        Due.is("octet", x.octet(0, 0), 1);
        Due.is("the most", x.spoil(0, 0, 255), true);
        Due.is("octet", x.octet(0, 0), 254);
    }

    private static void spoilChangesOneByte() {
        Due.by("Promise 11: Byte i is changed by exclusive or with x. Answers true");
        Net x = threeJoins();
        byte[] want = Scene.joinFrame(1, 1);
        for (int i = 0; i < 23; i += 11) {
            int change = 37 + 50 * i / 11;
            Due.is("spoil", x.spoil(1, i, change), true);
            want[i] ^= (byte) change;
            Scene.bytes("behind byte " + i, x, 1, want);
        }
        Scene.bytes("the frame before", x, 0, Scene.joinFrame(0, 1));
        Scene.bytes("the frame behind", x, 2, Scene.joinFrame(2, 1));
        for (int i = 0; i < 23; i += 11) {
            x.spoil(1, i, 37 + 50 * i / 11);
        }
        Scene.bytes("changed back", x, 1, Scene.joinFrame(1, 1));
        Due.is("goal", x.goal(1), 3);
        x.hear(1, 0);
        Due.is("it is good again", x.tally(1, 3), 1);
    }

    private static void spoilRefused() {
        Due.by("Promise 11: a spoil that is refused changes nothing");
        Net x = threeJoins();
        for (int wrong : NO_BYTES) {
            x.spoil(1, 3, wrong);
        }
        x.spoil(1, -1, 1);
        x.spoil(1, 23, 1);
        x.spoil(3, 3, 1);
        x.spoil(-1, 3, 1);
        for (int d = 0; d < 3; d++) {
            Scene.bytes("frame " + d, x, d, Scene.joinFrame(d, 1));
            x.hear(d, 0);
            Due.is("it is good", x.tally(d, 3), 1);
        }
    }

    // Promises 12 to 15

    /** A frame up of 22 bytes, a frame down of 24, a JOIN and an ACCEPT for device 2. */
    private static Net fourKinds() {
        Net x = Scene.joined(0);
        x.send(0, 1, 8, true, true);
        x.queue(0, 1, 8);
        x.hear(0, 0);
        x.tick(1);
        x.join(2);
        x.hear(2, 0);
        x.tick(1);
        return x;
    }

    private static void framesCounts() {
        Due.by("Promise 12: How many frames are under way");
        Net x = Scene.fresh();
        Due.is("none", x.frames(), 0);
        x.join(0);
        for (int i = 1; i <= 12; i++) {
            Due.is("frames", x.frames(), i);
            Due.is("replay", x.replay(0), i < 12);
        }
        x.join(1);
        Due.is("never thirteen", x.frames(), 12);
        for (int i = 11; i >= 0; i--) {
            x.lose(0);
            Due.is("frames", x.frames(), i);
        }
        Due.is("four kinds", fourKinds().frames(), 4);
    }

    private static void lengths() {
        Due.by("Promise 13: How many bytes the k-th frame under way has; NONE when there is none");
        Due.is("nothing under way", Scene.fresh().length(0), -1);
        Net x = fourKinds();
        int[] want = {22, 24, 23, 17};
        for (int k = 0; k < 4; k++) {
            Due.is("length(" + k + ")", x.length(k), want[k]);
        }
        for (int k : noneOf(4)) {
            Due.is("length(" + k + ")", x.length(k), -1);
        }
        Scene.fill(x);
        Due.is("the twelfth", x.length(11), 17);
        Due.is("a thirteenth", x.length(12), -1);
        Scene.clear(x);
        Due.is("all are lost", x.length(0), -1);
    }

    private static void octets() {
        Due.by("Promise 14: Byte i of the k-th frame under way; NONE when there is no such frame or byte");
        Due.is("nothing under way", Scene.fresh().octet(0, 0), -1);
        Net x = fourKinds();
        int[] lengths = {22, 24, 23, 17};
        int[] heads = {128, 96, 0, 32};
        for (int k = 0; k < 4; k++) {
            Due.is("the first byte", x.octet(k, 0), heads[k]);
            Due.is("the last byte is one", x.octet(k, lengths[k] - 1) >= 0, true);
            for (int i : new int[] {-1, lengths[k], lengths[k] + 1, 24, Integer.MIN_VALUE, Integer.MAX_VALUE}) {
                Due.is("byte " + i + " of " + lengths[k], x.octet(k, i), -1);
            }
        }
        for (int k : noneOf(4)) {
            Due.is("octet of frame " + k, x.octet(k, 0), -1);
        }
        Scene.fill(x);
        Due.is("of the twelfth", x.octet(11, 0), 32);
        Due.is("of a thirteenth", x.octet(12, 0), -1);
        Net y = fourKinds();
        Scene.bytes("a frame up", y, 0, Scene.upFrame(0, true, true, 0, 1, 8));
        Scene.bytes("a frame down", y, 1, Scene.downFrame(0, 35, 0, 1, 1, 8));
        Scene.bytes("a JOIN", y, 2, Scene.joinFrame(2, 1));
        Scene.bytes("an ACCEPT", y, 3, Scene.acceptFrame(2, 2, 1));
    }

    private static void goals() {
        Due.by("Promise 15: The device to which the k-th frame goes, 3 when it is UP; NONE when there is none");
        Due.is("nothing under way", Scene.fresh().goal(0), -1);
        Net x = fourKinds();
        int[] want = {3, 0, 3, 2};
        for (int k = 0; k < 4; k++) {
            Due.is("goal(" + k + ")", x.goal(k), want[k]);
            x.spoil(k, 0, 96);
            Due.is("whatever its bytes are", x.goal(k), want[k]);
        }
        for (int k : noneOf(4)) {
            Due.is("goal(" + k + ")", x.goal(k), -1);
        }
        Scene.fill(x);
        Due.is("of the twelfth", x.goal(11), 2);
        Due.is("of a thirteenth", x.goal(12), -1);
    }
}
