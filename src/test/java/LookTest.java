/** Promises 16 to 19: state, received, payload and tally. */
public final class LookTest {
    private LookTest() {
    }

    public static void main(String[] args) {
        stateTells();
        stateOfNone();
        receivedCounts();
        receivedOfNone();
        receivedInAllSessions();
        payloadsLatestFour();
        payloadsOfNone();
        payloadsAsNumbers();
        payloadsOfTwoWays();
        acknowledged();
        failed();
        latestCheck();
        sessions();
        tallyOfNone();
        lookingChangesNothing();
        Due.end();
    }

    /** Device d sends a payload that is heard, and receives another one. */
    private static void exchange(Net x, int d, long up, long down) {
        x.queue(d, down, 8);
        x.send(d, up, 8, false, false);
        x.hear(0, 0);
        x.tick(1);
        x.reach(1);
        x.lose(0);
    }

    // Promise 16

    private static void stateTells() {
        Due.by("Promise 16: What device d is: 0, 1, 2, and 10 more while it waits");
        for (int d = 0; d < 3; d++) {
            Net x = Scene.fresh();
            Due.is("OUT", x.state(d), 0);
            x.join(d);
            Due.is("JOINING", x.state(d), 11);
            Due.is("another is OUT", x.state((d + 1) % 3), 0);
            x.hear(0, 0);
            x.tick(1);
            Due.is("still JOINING", x.state(d), 11);
            x.reach(1);
            Due.is("IN", x.state(d), 2);
            x.send(d, 1, 1, false, false);
            Due.is("IN, and waits", x.state(d), 12);
            x.tick(3);
            Due.is("IN", x.state(d), 2);
            x.send(d, 1, 1, true, false);
            x.tick(11);
            Due.is("IN, and waits", x.state(d), 12);
            x.tick(1);
            Due.is("OUT", x.state(d), 0);
        }
    }

    private static void stateOfNone() {
        Due.by("Promise 16: NONE when there is no such device");
        Net x = Scene.joined(0);
        for (int d : Scene.NO_DEVICES) {
            Due.is("state(" + d + ")", x.state(d), -1);
        }
    }

    // Promise 17

    private static void receivedCounts() {
        Due.by("Promise 17: How many payloads the server received from device d, or device d from the server");
        Net x = Scene.joined(1);
        Due.is("none yet", x.received(1, true) + x.received(1, false), 0);
        for (int i = 1; i <= 7; i++) {
            exchange(x, 1, i, i);
            Due.is("up", x.received(1, true), i);
            Due.is("down", x.received(1, false), i);
        }
        for (int d : new int[] {0, 2}) {
            Due.is("another, up", x.received(d, true), 0);
            Due.is("another, down", x.received(d, false), 0);
        }
        x.send(1, 1, 1, false, false);
        x.hear(0, 0);
        Due.is("up alone", x.received(1, true), 8);
        Due.is("not down", x.received(1, false), 7);
    }

    private static void receivedOfNone() {
        Due.by("Promise 17: NONE when there is no such device");
        Net x = Scene.joined(1);
        exchange(x, 1, 1, 1);
        for (int d : Scene.NO_DEVICES) {
            Due.is("received(" + d + ", true)", x.received(d, true), -1);
            Due.is("received(" + d + ", false)", x.received(d, false), -1);
        }
    }

    private static void receivedInAllSessions() {
        Due.by("Promise 17: in all its sessions");
        Net x = Scene.joined(1);
        for (int session = 1; session <= 3; session++) {
            exchange(x, 1, 100 + session, 200 + session);
            Scene.bringIn(x, 1);
            Due.is("up", x.received(1, true), session);
            Due.is("down", x.received(1, false), session);
            for (int i = 0; i < session; i++) {
                Due.is("payload up", x.payload(1, true, i), 101 + i);
                Due.is("payload down", x.payload(1, false, i), 201 + i);
            }
        }
        x.join(1);
        x.tick(3);
        Due.is("also when it is OUT", x.received(1, true), 3);
    }

    // Promise 18

    private static void payloadsLatestFour() {
        Due.by("Promise 18: The i-th of these; NONE when there is none or it is not among the latest four");
        Net x = Scene.joined(1);
        for (int total = 1; total <= 9; total++) {
            exchange(x, 1, 99 + total, 199 + total);
            for (int i = Math.max(0, total - 6); i < total; i++) {
                boolean latest = i >= total - 4;
                Due.is("up " + i + " of " + total, x.payload(1, true, i), latest ? 100 + i : -1);
                Due.is("down " + i + " of " + total, x.payload(1, false, i), latest ? 200 + i : -1);
            }
            Due.is("up, one too many", x.payload(1, true, total), -1);
            Due.is("down, one too many", x.payload(1, false, total), -1);
        }
    }

    private static void payloadsOfNone() {
        Due.by("Promise 18: NONE when there is none");
        Net x = Scene.joined(1);
        Due.is("before the first, up", x.payload(1, true, 0), -1);
        Due.is("before the first, down", x.payload(1, false, 0), -1);
        exchange(x, 1, 7, 8);
        for (int i : new int[] {-1, -3, -4, 1, 4, Integer.MIN_VALUE, Integer.MAX_VALUE}) {
            Due.is("up " + i, x.payload(1, true, i), -1);
            Due.is("down " + i, x.payload(1, false, i), -1);
        }
        for (int d : Scene.NO_DEVICES) {
            Due.is("up, device " + d, x.payload(d, true, 0), -1);
            Due.is("down, device " + d, x.payload(d, false, 0), -1);
        }
        Due.is("up, another device", x.payload(0, true, 0), -1);
        Due.is("down, another device", x.payload(2, false, 0), -1);
    }

    private static void payloadsAsNumbers() {
        Due.by("Promise 18: a number whose lowest byte is the payload's first (of eight bytes it may be negative)");
        long[] payloads = {Long.MIN_VALUE, Long.MAX_VALUE, -2, 0, 1, 255, 256, 0x0102030405060708L,
            0xff00000000000000L, 0x80L << 24, 0x80L << 32, -1};
        Net x = Scene.joined(2);
        for (int i = 0; i < payloads.length; i++) {
            exchange(x, 2, payloads[i], ~payloads[i]);
            Due.is("up", x.payload(2, true, i), payloads[i]);
            Due.is("down", x.payload(2, false, i), ~payloads[i]);
        }
    }

    private static void payloadsOfTwoWays() {
        Due.by("Promise 18: up true, from the device; up false, from the server");
        Net x = Scene.joined(0);
        exchange(x, 0, 31, 41);
        Due.is("up", x.payload(0, true, 0), 31);
        Due.is("down", x.payload(0, false, 0), 41);
    }

    // Promise 19

    private static void acknowledged() {
        Due.by("Promise 19: How often a frame of device d was ACKNOWLEDGED (what 0)");
        Net x = Scene.joined(1);
        for (int i = 1; i <= 5; i++) {
            Scene.ask(x, 1, true, false);
            Due.is("not before it is reached", x.tally(1, 0), i - 1);
            x.reach(0);
            Due.is("tally(1, 0)", x.tally(1, 0), i);
        }
        Scene.bringIn(x, 1);
        Due.is("in all sessions", x.tally(1, 0), 5);
        Due.is("of another", x.tally(0, 0) + x.tally(2, 0), 0);
    }

    private static void failed() {
        Due.by("Promise 19: how often it FAILED (1)");
        Net x = Scene.fresh();
        for (int i = 1; i <= 3; i++) {
            Scene.bringIn(x, 1);
            x.send(1, 1, 1, true, false);
            x.tick(11);
            Due.is("not yet", x.tally(1, 1), i - 1);
            x.tick(1);
            Due.is("tally(1, 1)", x.tally(1, 1), i);
            Scene.clear(x);
        }
        Due.is("of another", x.tally(0, 1) + x.tally(2, 1), 0);
    }

    private static void latestCheck() {
        Due.by("Promise 19: of how many gateways its latest CHECK was (2; 0 before)");
        Net x = Scene.joined(1);
        Due.is("before", x.tally(1, 2), 0);
        int[] want = {1, 2, 1};
        for (int gateways : want) {
            x.send(1, 1, 1, true, true);
            x.hear(0, 1);
            if (gateways == 2) {
                x.hear(0, 0);
            }
            x.tick(1);
            x.reach(1);
            x.lose(0);
            Due.is("tally(1, 2)", x.tally(1, 2), gateways);
        }
        Scene.ask(x, 1, true, false);
        x.reach(0);
        Due.is("an ANSWER without a check", x.tally(1, 2), 1);
        Scene.bringIn(x, 1);
        Due.is("in a new session", x.tally(1, 2), 1);
        Due.is("of another", x.tally(0, 2) + x.tally(2, 2), 0);
    }

    private static void sessions() {
        Due.by("Promise 19: how many sessions the server gave it (3)");
        Net x = Scene.fresh();
        x.join(1);
        Due.is("not before it is heard", x.tally(1, 3), 0);
        x.hear(0, 0);
        Due.is("when it is heard", x.tally(1, 3), 1);
        x.hear(0, 1);
        Due.is("not again", x.tally(1, 3), 1);
        x.tick(3);
        Due.is("also when its ACCEPT did not reach", x.tally(1, 3), 1);
        Due.is("state", x.state(1), 0);
        Scene.clear(x);
        for (int i = 2; i <= 5; i++) {
            Scene.bringIn(x, 1);
            Due.is("tally(1, 3)", x.tally(1, 3), i);
        }
        Due.is("of another", x.tally(0, 3) + x.tally(2, 3), 0);
    }

    private static void tallyOfNone() {
        Due.by("Promise 19: NONE when there is no such device, or what is none of these");
        Net x = Scene.joined(1);
        for (int d = 0; d < 3; d++) {
            for (int what : new int[] {-1, 4, 5, Integer.MIN_VALUE, Integer.MAX_VALUE}) {
                Due.is("tally(" + d + ", " + what + ")", x.tally(d, what), -1);
            }
        }
        for (int what = -1; what <= 4; what++) {
            for (int d : Scene.NO_DEVICES) {
                Due.is("tally(" + d + ", " + what + ")", x.tally(d, what), -1);
            }
        }
        Due.is("the first", x.tally(1, 0), 0);
        Due.is("the last", x.tally(1, 3), 1);
    }

    private static void lookingChangesNothing() {
        Due.by("Promises 12 to 19: a call that looks answers the same when it is made again");
        Net x = Scene.joined(0);
        exchange(x, 0, 5, 6);
        x.send(0, 1, 1, true, true);
        x.hear(0, 0);
        for (int i = 0; i < 3; i++) {
            Due.is("frames", x.frames(), 1);
            Due.is("length", x.length(0), 15);
            Due.is("octet", x.octet(0, 0), 128);
            Due.is("goal", x.goal(0), 3);
            Due.is("state", x.state(0), 12);
            Due.is("received", x.received(0, true), 2);
            Due.is("payload", x.payload(0, true, 1), 1);
            Due.is("tally", x.tally(0, 3), 1);
        }
        x.tick(1);
        Scene.bytes("what was due", x, 1, Scene.downFrame(0, 35, 1, 1, 0, 0));
    }
}
