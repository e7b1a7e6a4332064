/** Promise 3: send, and how a confirmed frame is sent again. */
public final class SendTest {
    private static final long PAYLOAD = 0xf1e2d3c4b5a69788L;

    private SendTest() {
    }

    public static void main(String[] args) {
        forms();
        lowestBytesAlone();
        noBytes();
        bytesOutOfRange();
        noSuchDevice();
        notIn();
        notInOnceFailed();
        waits();
        countGrows();
        countPassesTwoBytes();
        countOfSendingsAgain();
        countIsOfTheSession();
        sentAgainUntilItFails();
        unconfirmedIsSentOnce();
        acknowledgedIsSentNoMore();
        fullAir();
        fullAirSendingsCount();
        lastPlaceInTheAir();
        refusedChangesNothing();
        Due.end();
    }

    private static void forms() {
        Due.by("Promise 3: sends DATA up with the n lowest bytes, and option 2 if check is true");
        for (int d = 0; d < 3; d++) {
            for (int n = 0; n <= 8; n++) {
                for (int form = 0; form < 4; form++) {
                    boolean confirmed = form % 2 == 1;
                    boolean check = form >= 2;
                    Net x = Scene.joined(d);
                    String what = "send n " + n + ", confirmed " + confirmed + ", check " + check;
                    Due.is(what, x.send(d, PAYLOAD, n, confirmed, check), 0);
                    Due.is(what + ": state", x.state(d), 12);
                    Due.is(what + ": goal", x.goal(0), 3);
                    Scene.bytes(what, x, 0, Scene.upFrame(d, confirmed, check, 0, PAYLOAD, n));
                    Due.is(what + ": heard", x.hear(0, 1), true);
                    Due.is(what + ": received", x.received(d, true), n == 0 ? 0 : 1);
                    long low = n == 8 ? PAYLOAD : PAYLOAD & ((1L << (8 * n)) - 1);
                    Due.is(what + ": payload", x.payload(d, true, 0), n == 0 ? -1 : low);
                }
            }
        }
    }

    private static void lowestBytesAlone() {
        Due.by("Promise 3: the n lowest bytes of payload, whatever is above them");
        long[] payloads = {255, -1, 0x1ff, Long.MIN_VALUE | 255, Long.MAX_VALUE};
        for (long payload : payloads) {
            Net x = Scene.joined(0);
            x.send(0, payload, 1, false, false);
            Scene.bytes("payload " + payload, x, 0, Scene.upFrame(0, false, false, 0, 255, 1));
            x.hear(0, 0);
            Due.is("payload", x.payload(0, true, 0), 255);
        }
    }

    private static void noBytes() {
        Due.by("Promise 3: none, when n is 0");
        for (long payload : new long[] {0, 1, -1, Long.MIN_VALUE}) {
            Net x = Scene.joined(0);
            Due.is("send", x.send(0, payload, 0, false, false), 0);
            Due.is("length", x.length(0), 12);
            Scene.bytes("payload " + payload, x, 0, Scene.upFrame(0, false, false, 0, 0, 0));
        }
    }

    private static void bytesOutOfRange() {
        Due.by("Promise 3: NONE when n is not 0 .. 8");
        Net x = Scene.joined(0);
        for (int n : new int[] {-1, 9, -8, 16, 64, Integer.MIN_VALUE, Integer.MAX_VALUE}) {
            Due.is("n " + n, x.send(0, 1, n, false, false), -1);
            Due.is("n " + n + ", confirmed and check", x.send(0, 1, n, true, true), -1);
        }
        Due.is("frames", x.frames(), 0);
        Due.is("n 0", x.send(0, 1, 0, false, false), 0);
        x.tick(3);
        Due.is("n 8", x.send(0, 1, 8, false, false), 1);
    }

    private static void noSuchDevice() {
        Due.by("Promise 3: NONE when there is no such device");
        Net x = Scene.fresh();
        for (int d = 0; d < 3; d++) {
            Scene.bringIn(x, d);
        }
        for (int d : Scene.NO_DEVICES) {
            Due.is("device " + d, x.send(d, 1, 1, false, false), -1);
        }
        Due.is("frames", x.frames(), 0);
        Due.is("the first device", x.send(0, 1, 1, false, false), 0);
        Due.is("the last device", x.send(2, 1, 1, false, false), 0);
    }

    private static void notIn() {
        Due.by("Promise 3: NONE when it is not IN");
        Net x = Scene.joined(1);
        Due.is("OUT", x.send(0, 1, 1, false, false), -1);
        Due.is("state", x.state(0), 0);
        x.join(0);
        for (int since = 0; since < 4; since++) {
            Due.is("behind a JOIN, at T + " + since, x.send(0, 1, 1, true, true), -1);
            x.tick(1);
        }
        Due.is("frames", x.frames(), 1);
        Due.is("another that is IN", x.send(1, 1, 1, false, false), 0);
    }

    private static void notInOnceFailed() {
        Due.by("Promise 3: NONE when it is not IN any more");
        Net x = Scene.joined(0);
        x.send(0, 1, 1, true, false);
        x.tick(12);
        Due.is("state", x.state(0), 0);
        Due.is("send", x.send(0, 1, 1, false, false), -1);
        Due.is("frames", x.frames(), 4);
    }

    private static void waits() {
        Due.by("Promise 3: NONE when it waits");
        Net x = Scene.joined(0);
        x.send(0, 1, 1, false, false);
        for (int since = 0; since < 3; since++) {
            Due.is("at T + " + since, x.send(0, 1, 1, false, false), -1);
            x.tick(1);
        }
        Due.is("at T + 3", x.send(0, 1, 1, true, false), 1);
        for (int since = 0; since < 12; since++) {
            Due.is("confirmed, at T + " + since, x.send(0, 1, 1, false, false), -1);
            x.tick(1);
        }
    }

    private static void countGrows() {
        Due.by("Promise 3: Answers its count, which grows by 1");
        Net x = Scene.joined(1);
        for (int count = 0; count < 12; count++) {
            Due.is("send", x.send(1, count, 1, false, false), count);
            Scene.bytes("count " + count, x, 0, Scene.upFrame(1, false, false, count, count, 1));
            x.tick(3);
            x.lose(0);
        }
    }

    private static void countPassesTwoBytes() {
        Due.by("Terms: the lowest two bytes of the COUNT; the count (four bytes) in the code and the enciphering");
        int[] counts = {255, 256, 65534, 65535, 65536, 65537, 131071, 131072};
        Net x = Scene.joined(0);
        int next = 0;
        for (int count : counts) {
            if (count > next) {
                x.skip(0, count - next);
            }
            Due.is("send", x.send(0, PAYLOAD, 3, true, true), count);
            Due.is("low byte", x.octet(0, 6), count % 256);
            Due.is("next byte", x.octet(0, 7), count / 256 % 256);
            Scene.bytes("count " + count, x, 0, Scene.upFrame(0, true, true, count, PAYLOAD, 3));
            next = count + 1;
            x.hear(0, 0);
            x.tick(1);
            x.reach(1);
            x.lose(0);
        }
        Due.is("each was taken and acknowledged", x.tally(0, 0), counts.length);
    }

    private static void countOfSendingsAgain() {
        Due.by("Terms: the same frame is sent again, with the same count");
        Net x = Scene.joined(0);
        x.send(0, 1, 1, true, false);
        x.tick(9);
        x.hear(3, 0);
        x.tick(1);
        x.reach(4);
        Due.is("acknowledged", x.tally(0, 0), 1);
        Due.is("the next count", x.send(0, 1, 1, true, false), 1);
    }

    private static void countIsOfTheSession() {
        Due.by("Terms: IN, it has the count of the next frame up (0 at first)");
        Net x = Scene.joined(1);
        x.send(1, 1, 1, false, false);
        x.tick(3);
        x.lose(0);
        x.skip(1, 500);
        Scene.bringIn(x, 1);
        Due.is("the first count of a new session", x.send(1, 1, 1, false, false), 0);
    }

    private static void sentAgainUntilItFails() {
        Due.by("Terms: if it was sent four times, the device is OUT, and has FAILED once more; if less, it is sent again");
        Net x = Scene.joined(2);
        byte[] want = Scene.upFrame(2, true, true, 0, 99, 2);
        x.send(2, 99, 2, true, true);
        x.spoil(0, 3, 7);
        for (int times = 1; times < 4; times++) {
            x.tick(2);
            Due.is("not yet again", x.frames(), times);
            Due.is("waits on", x.state(2), 12);
            x.tick(1);
            Due.is("again", x.frames(), times + 1);
            Due.is("waits anew", x.state(2), 12);
            Scene.bytes("the same frame", x, times, want);
            Due.is("not failed yet", x.tally(2, 1), 0);
        }
        x.tick(2);
        Due.is("the fourth waits", x.state(2), 12);
        Due.is("not failed yet", x.tally(2, 1), 0);
        x.tick(1);
        Due.is("failed", x.tally(2, 1), 1);
        Due.is("OUT", x.state(2), 0);
        Due.is("not a fifth time", x.frames(), 4);
        x.tick(50);
        Due.is("nothing more", x.frames(), 4);
        Due.is("not once more", x.tally(2, 1), 1);
    }

    private static void unconfirmedIsSentOnce() {
        Due.by("Terms: At the time T + 3 it waits no more; only a confirmed frame is sent again");
        Net x = Scene.joined(2);
        x.send(2, 99, 2, false, true);
        x.tick(3);
        Due.is("frames", x.frames(), 1);
        Due.is("IN", x.state(2), 2);
        x.tick(50);
        Due.is("frames", x.frames(), 1);
        Due.is("not failed", x.tally(2, 1), 0);
    }

    private static void acknowledgedIsSentNoMore() {
        Due.by("Terms: At the time T + 3, if it still waits");
        for (int sendings = 1; sendings <= 4; sendings++) {
            Net x = Scene.joined(0);
            x.send(0, 1, 1, true, false);
            if (sendings > 1) {
                x.tick(3 * (sendings - 1));
            }
            Due.is("frames", x.frames(), sendings);
            x.hear(0, 0);
            x.tick(1);
            x.reach(sendings);
            Due.is("acknowledged behind " + sendings, x.tally(0, 0), 1);
            Due.is("state", x.state(0), 2);
            x.tick(20);
            Due.is("not again behind " + sendings, x.frames(), sendings);
            Due.is("not failed behind " + sendings, x.tally(0, 1), 0);
            Due.is("still IN", x.state(0), 2);
        }
    }

    private static void fullAir() {
        Due.by("Terms: one that is sent when there are twelve is lost (DATA)");
        Net x = Scene.joined(0);
        Scene.fill(x);
        Due.is("frames before", x.frames(), 12);
        Due.is("send", x.send(0, 4, 1, true, false), 0);
        Due.is("frames", x.frames(), 12);
        Due.is("goal of the last", x.goal(11), 0);
        Due.is("it waits all the same", x.state(0), 12);
        Scene.clear(x);
        x.replay(0);
        Scene.bytes("it is remembered", x, 0, Scene.upFrame(0, true, false, 0, 4, 1));
        x.tick(3);
        Due.is("sent again", x.frames(), 2);
        Scene.bytes("again", x, 1, Scene.upFrame(0, true, false, 0, 4, 1));
    }

    private static void fullAirSendingsCount() {
        Due.by("Terms: sent four times, also when each was lost");
        Net x = Scene.joined(0);
        Scene.fill(x);
        x.send(0, 4, 1, true, false);
        x.tick(11);
        Due.is("state", x.state(0), 12);
        x.tick(1);
        Due.is("OUT", x.state(0), 0);
        Due.is("failed", x.tally(0, 1), 1);
        Due.is("frames", x.frames(), 12);
    }

    private static void lastPlaceInTheAir() {
        Due.by("Terms: UNDER WAY are at most twelve frames, in the order in which they were sent");
        Net x = Scene.joined(0);
        Scene.fill(x);
        x.lose(0);
        x.send(0, 4, 1, true, false);
        Due.is("frames", x.frames(), 12);
        Scene.bytes("the twelfth", x, 11, Scene.upFrame(0, true, false, 0, 4, 1));
        x.tick(3);
        Due.is("frames", x.frames(), 12);
        x.lose(11);
        x.tick(3);
        Due.is("frames", x.frames(), 12);
        Scene.bytes("the twelfth, sent again", x, 11, Scene.upFrame(0, true, false, 0, 4, 1));
    }

    private static void refusedChangesNothing() {
        Due.by("Promise 3: a send that is refused changes nothing");
        Net x = Scene.joined(0);
        x.send(0, 1, 9, true, true);
        x.send(3, 1, 1, true, true);
        Due.is("it does not wait", x.state(0), 2);
        Due.is("nothing is sent", x.frames(), 0);
        Due.is("nothing is remembered", x.replay(2), false);
        Due.is("it does not count", x.send(0, 1, 1, false, false), 0);
        x.tick(2);
        Due.is("while it waits", x.send(0, 2, 2, true, true), -1);
        x.tick(1);
        Due.is("the wait ends as before", x.state(0), 2);
        Due.is("nothing is sent again", x.frames(), 1);
        Due.is("it did not count", x.send(0, 3, 1, false, false), 1);
    }
}
