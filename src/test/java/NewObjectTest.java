import java.math.BigInteger;
import java.util.Arrays;

/** Promise 1, and the root keys that a new object makes of its seed. */
public final class NewObjectTest {
    private NewObjectTest() {
    }

    public static void main(String[] args) {
        cryptIsRight();
        nothingUnderWay();
        allDevicesOut();
        nothingHappenedYet();
        timeIsZero();
        rootKeys();
        objectsShareNothing();
        Due.end();
    }

    /** The examples of RFC 4493, so that what the tests lean on is right. */
    private static void cryptIsRight() {
        Due.by("Terms: MAC(key, row) is CMAC with AES");
        byte[] key = new BigInteger("2b7e151628aed2a6abf7158809cf4f3c", 16).toByteArray();
        byte[] row = new BigInteger("6bc1bee22e409f96e93d7e117393172aae2d8a571e03ac9c9eb76fac45af8e51"
            + "30c81c46a35ce411", 16).toByteArray();
        String[] want = {"bb1d6929e95937287fa37d129b756746", "070a16b46b4d4144f79bdd9dd04a287c",
            "dfa66747de9ae63030ca32611497c827"};
        int[] lengths = {0, 16, 40};
        for (int i = 0; i < 3; i++) {
            String got = String.format("%032x", new BigInteger(1, Crypt.mac(key, Arrays.copyOf(row, lengths[i]))));
            Due.is("MAC " + got, got.equals(want[i]), true);
        }
    }

    private static void nothingUnderWay() {
        Due.by("Promise 1: Nothing under way");
        Net x = Scene.fresh();
        Due.is("frames()", x.frames(), 0);
        Due.is("length(0)", x.length(0), -1);
        Due.is("octet(0, 0)", x.octet(0, 0), -1);
        Due.is("goal(0)", x.goal(0), -1);
        Due.is("hear(0, 0)", x.hear(0, 0), false);
        Due.is("reach(0)", x.reach(0), false);
        Due.is("lose(0)", x.lose(0), false);
        Due.is("spoil(0, 0, 1)", x.spoil(0, 0, 1), false);
        Due.is("replay(0)", x.replay(0), false);
        Due.is("frames()", x.frames(), 0);
    }

    private static void allDevicesOut() {
        Due.by("Promise 1: all devices OUT");
        Net x = Scene.fresh();
        for (int d = 0; d < 3; d++) {
            Due.is("state", x.state(d), 0);
            Due.is("send", x.send(d, 1, 1, false, false), -1);
            Due.is("skip", x.skip(d, 1), -1);
            Due.is("join", x.join(d), 1);
        }
    }

    private static void nothingHappenedYet() {
        Due.by("Promises 17 to 19: before anything was received or sent");
        Net x = Scene.fresh();
        for (int d = 0; d < 3; d++) {
            Due.is("received up", x.received(d, true), 0);
            Due.is("received down", x.received(d, false), 0);
            Due.is("payload up", x.payload(d, true, 0), -1);
            Due.is("payload down", x.payload(d, false, 0), -1);
            for (int what = 0; what < 4; what++) {
                Due.is("tally " + what, x.tally(d, what), 0);
            }
            Due.is("queue", x.queue(d, 1, 1), 1);
        }
    }

    private static void timeIsZero() {
        Due.by("Terms: TIME is 0 at first");
        Due.is("tick(1)", Scene.fresh().tick(1), 1);
        Due.is("tick(50)", Scene.fresh().tick(50), 50);
        Net x = Scene.fresh();
        x.tick(50);
        Due.is("nothing was due", x.frames(), 0);
    }

    private static void rootKeys() {
        Due.by("Terms: (seed + 41 * d + 13 * i) mod 256 (of a negative number the rest that is not negative)");
        int[] seeds = {0, 1, 60, 61, 255, 256, 257, -1, -5, -82, -195, -255, -256, -257, 12345, -12345,
            Integer.MAX_VALUE, Integer.MAX_VALUE - 277, Integer.MIN_VALUE, Integer.MIN_VALUE + 1};
        for (int seed : seeds) {
            Net x = new Net(seed);
            for (int d = 0; d < 3; d++) {
                x.join(d);
                Scene.bytes("seed " + seed + ", device " + d, x, d, Crypt.joinFrame(Crypt.root(seed, d), d, 1));
            }
        }
    }

    private static void objectsShareNothing() {
        Due.by("Promise 1: A new object, whatever was done with others");
        Net x = Scene.joined(0);
        x.queue(0, 1, 1);
        x.send(0, 1, 1, true, true);
        Net y = new Net(Scene.SEED + 1);
        Due.is("frames() of another", y.frames(), 0);
        Due.is("state(0) of another", y.state(0), 0);
        Due.is("join(0) of another", y.join(0), 1);
        y.hear(0, 1);
        Due.is("tick(1) of another", y.tick(1), 1);
        Scene.bytes("the other's ACCEPT", y, 1,
            Crypt.acceptFrame(Crypt.root(Scene.SEED + 1, 0), 1, Crypt.address(0, 1)));
        Due.is("frames() of the first", x.frames(), 1);
        Scene.bytes("the first one's frame", x, 0, Scene.upFrame(0, true, true, 0, 1, 1));
    }
}
