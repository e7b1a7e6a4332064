/** Promise 4: skip. */
public final class SkipTest {
    private SkipTest() {
    }

    public static void main(String[] args) {
        countGrowsByN();
        stepsOutOfRange();
        noSuchDevice();
        notIn();
        waits();
        passesTwoBytes();
        goesFarOn();
        goneWithTheSession();
        refusedChangesNothing();
        Due.end();
    }

    private static void countGrowsByN() {
        Due.by("Promise 4: The count of device d's next frame up grows by n. Answers it");
        Net x = Scene.joined(0);
        Due.is("skip 1", x.skip(0, 1), 1);
        Due.is("skip 70000", x.skip(0, 70000), 70001);
        Due.is("skip 5", x.skip(0, 5), 70006);
        Due.is("nothing is sent", x.frames(), 0);
        Due.is("it does not wait", x.state(0), 2);
        Due.is("send behind", x.send(0, 1, 1, false, false), 70006);
        Scene.bytes("send behind", x, 0, Scene.upFrame(0, false, false, 70006, 1, 1));
        x.tick(3);
        Due.is("skip behind a frame", x.skip(0, 3), 70010);
    }

    private static void stepsOutOfRange() {
        Due.by("Promise 4: NONE when n is not 1 .. 70000");
        Net x = Scene.joined(0);
        for (int n : new int[] {0, -1, 70001, -70000, Integer.MIN_VALUE, Integer.MAX_VALUE}) {
            Due.is("skip by " + n, x.skip(0, n), -1);
        }
        Due.is("the least", x.skip(0, 1), 1);
        Due.is("the most", x.skip(0, 70000), 70001);
        Due.is("one more than the most", x.skip(0, 70001), -1);
        Due.is("the count is as it was", x.skip(0, 1), 70002);
    }

    private static void noSuchDevice() {
        Due.by("Promise 4: NONE when there is no such device");
        Net x = Scene.fresh();
        for (int d = 0; d < 3; d++) {
            Scene.bringIn(x, d);
        }
        for (int d : Scene.NO_DEVICES) {
            Due.is("skip of device " + d, x.skip(d, 1), -1);
        }
        for (int d = 0; d < 3; d++) {
            Due.is("skip of device " + d, x.skip(d, 1 + d), 1 + d);
        }
    }

    private static void notIn() {
        Due.by("Promise 4: NONE when it is not IN");
        Net x = Scene.fresh();
        Due.is("OUT", x.skip(1, 1), -1);
        x.join(1);
        Due.is("JOINING", x.skip(1, 1), -1);
        x.tick(3);
        Due.is("OUT again", x.skip(1, 1), -1);
        Net y = Scene.joined(1);
        y.send(1, 1, 1, true, false);
        y.tick(12);
        Due.is("OUT once failed", y.skip(1, 1), -1);
    }

    private static void waits() {
        Due.by("Promise 4: NONE when it waits");
        Net x = Scene.joined(0);
        x.send(0, 1, 1, false, false);
        for (int since = 0; since < 3; since++) {
            Due.is("at T + " + since, x.skip(0, 1), -1);
            x.tick(1);
        }
        Due.is("at T + 3", x.skip(0, 1), 2);
    }

    private static void passesTwoBytes() {
        Due.by("Promise 4: a count that passes 65535 and goes on");
        Net x = Scene.joined(0);
        Due.is("skip to 65535", x.skip(0, 65535), 65535);
        Due.is("skip to 65536", x.skip(0, 1), 65536);
        Due.is("skip to 65537", x.skip(0, 1), 65537);
        Due.is("skip to 131073", x.skip(0, 65536), 131073);
        Net y = Scene.joined(0);
        y.skip(0, 65535);
        Due.is("send at 65535", y.send(0, 1, 1, false, false), 65535);
        y.tick(3);
        Due.is("skip behind it", y.skip(0, 1), 65537);
    }

    private static void goesFarOn() {
        Due.by("Promise 4: a count of four bytes");
        Net x = Scene.joined(0);
        long count = 0;
        for (int i = 0; i < 480; i++) {
            count += 70000;
            Due.is("skip on", x.skip(0, 70000), count);
        }
        Due.is("send far on", x.send(0, 1, 1, false, false), count);
        Scene.bytes("far on", x, 0, Scene.upFrame(0, false, false, count, 1, 1));
    }

    private static void goneWithTheSession() {
        Due.by("Terms: the count of the next frame up (0 at first), in each session");
        Net x = Scene.joined(0);
        x.skip(0, 70000);
        Scene.bringIn(x, 0);
        Due.is("skip in a new session", x.skip(0, 1), 1);
    }

    private static void refusedChangesNothing() {
        Due.by("Promise 4: a skip that is refused changes nothing");
        Net x = Scene.joined(0);
        x.skip(0, 0);
        x.skip(0, 70001);
        x.skip(0, -5);
        x.skip(3, 5);
        x.skip(1, 5);
        Due.is("the count", x.send(0, 1, 1, true, false), 0);
        x.skip(0, 5);
        x.tick(3);
        Scene.bytes("what is sent again", x, 1, Scene.upFrame(0, true, false, 0, 1, 1));
        x.hear(1, 0);
        x.tick(1);
        x.reach(2);
        Due.is("the count behind it", x.send(0, 1, 1, false, false), 1);
        x.tick(3);
        Scene.clear(x);
        Scene.bringIn(x, 1);
        Due.is("the other's count", x.send(1, 1, 1, false, false), 0);
    }
}
