/** Promise 5: queue. */
public final class QueueTest {
    private QueueTest() {
    }

    public static void main(String[] args) {
        comesLast();
        lowestBytesAlone();
        bytesOutOfRange();
        noSuchDevice();
        fourAreThere();
        roomAgain();
        whateverTheDeviceIs();
        eachDeviceItsOwn();
        outlivesSessions();
        sendsNothingByItself();
        refusedChangesNothing();
        Due.end();
    }

    private static void comesLast() {
        Due.by("Promise 5: A payload comes last in the server's queue. Answers how many are there");
        Net x = Scene.joined(1);
        long[] queued = {0x1122334455667788L, -1, 0x8000000000000000L, 255};
        int[] n = {3, 1, 8, 2};
        long[] want = {0x667788, 255, 0x8000000000000000L, 255};
        for (int i = 0; i < 4; i++) {
            Due.is("queue", x.queue(1, queued[i], n[i]), i + 1);
        }
        for (int i = 0; i < 4; i++) {
            Scene.ask(x, 1, false, false);
            Scene.bytes("down " + i, x, 0, Scene.downFrame(1, i < 3 ? 16 : 0, i, 0, queued[i], n[i]));
            x.reach(0);
            Due.is("in order", x.payload(1, false, i), want[i]);
        }
        Scene.ask(x, 1, false, false);
        Due.is("nothing is left", x.frames(), 0);
    }

    private static void lowestBytesAlone() {
        Due.by("Promise 5: the n lowest bytes, the lowest first");
        long payload = 0xf1e2d3c4b5a69788L;
        for (int n = 1; n <= 8; n++) {
            Net x = Scene.joined(0);
            Due.is("queue n " + n, x.queue(0, payload, n), 1);
            Scene.ask(x, 0, false, false);
            Due.is("length", x.length(0), 13 + n);
            Scene.bytes("down", x, 0, Scene.downFrame(0, 0, 0, 0, payload, n));
            x.reach(0);
            long low = n == 8 ? payload : payload & ((1L << (8 * n)) - 1);
            Due.is("payload", x.payload(0, false, 0), low);
        }
    }

    private static void bytesOutOfRange() {
        Due.by("Promise 5: NONE when n is not 1 .. 8");
        Net x = Scene.fresh();
        for (int n : new int[] {0, -1, 9, -8, 16, Integer.MIN_VALUE, Integer.MAX_VALUE}) {
            Due.is("n " + n, x.queue(0, 1, n), -1);
        }
        Due.is("n 1", x.queue(0, 1, 1), 1);
        Due.is("n 8", x.queue(0, 1, 8), 2);
        Due.is("n 9", x.queue(0, 1, 9), -1);
        Due.is("n 0", x.queue(0, 1, 0), -1);
        Due.is("only the right ones are there", x.queue(0, 1, 1), 3);
    }

    private static void noSuchDevice() {
        Due.by("Promise 5: NONE when there is no such device");
        Net x = Scene.fresh();
        for (int d : Scene.NO_DEVICES) {
            Due.is("device " + d, x.queue(d, 1, 1), -1);
        }
        for (int d = 0; d < 3; d++) {
            Due.is("device " + d, x.queue(d, 1, 1), 1);
        }
    }

    private static void fourAreThere() {
        Due.by("Promise 5: NONE when four are there");
        Net x = Scene.fresh();
        for (int i = 1; i <= 4; i++) {
            Due.is("queue", x.queue(2, i, 8), i);
        }
        Due.is("a fifth", x.queue(2, 5, 8), -1);
        Due.is("still a fifth", x.queue(2, 5, 1), -1);
        Due.is("for another there is room", x.queue(1, 5, 1), 1);
    }

    private static void roomAgain() {
        Due.by("Promise 5: four are there no more when the first has left");
        Net x = Scene.joined(0);
        for (int i = 0; i < 4; i++) {
            x.queue(0, 10 + i, 1);
        }
        Scene.ask(x, 0, false, false);
        x.reach(0);
        Due.is("three are left", x.queue(0, 14, 1), 4);
        Due.is("a fifth", x.queue(0, 99, 1), -1);
        for (int i = 1; i < 5; i++) {
            Scene.ask(x, 0, true, false);
            Due.is("control", x.octet(0, 5), i < 4 ? 48 : 32);
            x.reach(0);
            Due.is("in order", x.payload(0, false, i), 10 + i);
        }
        Due.is("all have left", x.queue(0, 1, 1), 1);
    }

    private static void whateverTheDeviceIs() {
        Due.by("Promise 5: also for a device that is OUT, JOINING or waits, and has no session");
        Net x = Scene.fresh();
        Due.is("OUT", x.queue(0, 21, 1), 1);
        x.join(0);
        Due.is("JOINING", x.queue(0, 22, 1), 2);
        x.hear(0, 0);
        x.lose(0);
        x.tick(1);
        Due.is("an ACCEPT is under way", x.queue(0, 23, 1), 3);
        x.reach(0);
        x.send(0, 1, 1, false, false);
        Due.is("it waits", x.queue(0, 24, 1), 4);
        x.hear(0, 0);
        x.tick(1);
        x.reach(1);
        Due.is("the first of them", x.payload(0, false, 0), 21);
    }

    private static void eachDeviceItsOwn() {
        Due.by("Terms: THE SERVER has for each device a QUEUE");
        Net x = Scene.fresh();
        for (int d = 0; d < 3; d++) {
            Scene.bringIn(x, d);
            Due.is("queue", x.queue(d, 30 + d, 1), 1);
        }
        for (int d = 2; d >= 0; d--) {
            Scene.ask(x, d, false, false);
            x.reach(0);
            Due.is("received", x.received(d, false), 1);
            Due.is("payload", x.payload(d, false, 0), 30 + d);
        }
    }

    private static void outlivesSessions() {
        Due.by("Terms: THE SERVER has for each device a QUEUE, and a session or none");
        Net x = Scene.joined(0);
        x.queue(0, 10, 1);
        x.queue(0, 11, 1);
        Scene.bringIn(x, 0);
        Due.is("two are still there", x.queue(0, 12, 1), 3);
        Scene.ask(x, 0, false, false);
        x.reach(0);
        Due.is("the first", x.payload(0, false, 0), 10);
    }

    private static void sendsNothingByItself() {
        Due.by("Terms: an ANSWER is due when a frame is heard");
        Net x = Scene.joined(0);
        x.queue(0, 10, 1);
        x.tick(50);
        Due.is("frames", x.frames(), 0);
        Due.is("it is there", x.queue(0, 11, 1), 2);
    }

    private static void refusedChangesNothing() {
        Due.by("Promise 5: a queue that is refused changes nothing");
        Net x = Scene.joined(0);
        for (int i = 0; i < 4; i++) {
            x.queue(0, 50 + i, 1);
            x.queue(0, 90, 0);
            x.queue(0, 91, 9);
        }
        x.queue(0, 92, 2);
        x.queue(3, 93, 1);
        x.queue(-1, 94, 1);
        for (int i = 0; i < 4; i++) {
            Scene.ask(x, 0, false, false);
            Scene.bytes("down", x, 0, Scene.downFrame(0, i < 3 ? 16 : 0, i, 0, 50 + i, 1));
            x.reach(0);
        }
        Due.is("four came", x.received(0, false), 4);
        Scene.ask(x, 0, false, false);
        Due.is("no fifth", x.frames(), 0);
    }
}
