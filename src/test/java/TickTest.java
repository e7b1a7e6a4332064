/** Promise 6: tick, and what the server and the devices do at that time. */
public final class TickTest {
    private TickTest() {
    }

    public static void main(String[] args) {
        answersTheTime();
        ticksOutOfRange();
        manyAtOnce();
        serverInTurn();
        serverBeforeDevices();
        dueOnce();
        answers();
        moreThanOneInTheQueue();
        queuedLate();
        countDownGrows();
        joiningEnds();
        waitingEnds();
        answerInFullAir();
        acceptInFullAir();
        lastPlaceInTheAir();
        refusedChangesNothing();
        Due.end();
    }

    private static void answersTheTime() {
        Due.by("Promise 6: n ticks. Answers the time");
        Net x = Scene.fresh();
        Due.is("tick 1", x.tick(1), 1);
        Due.is("tick 50", x.tick(50), 51);
        Due.is("tick 2", x.tick(2), 53);
        for (int i = 1; i <= 450; i++) {
            Due.is("tick 50 again", x.tick(50), 53 + 50 * i);
        }
    }

    private static void ticksOutOfRange() {
        Due.by("Promise 6: NONE when n is not 1 .. 50");
        Net x = Scene.fresh();
        for (int n : new int[] {0, -1, 51, -50, Integer.MIN_VALUE, Integer.MAX_VALUE}) {
            Due.is("tick " + n, x.tick(n), -1);
        }
        Due.is("the least", x.tick(1), 1);
        Due.is("the most", x.tick(50), 51);
        Due.is("one more than the most", x.tick(51), -1);
        Due.is("none", x.tick(0), -1);
        Due.is("the time is as it was", x.tick(1), 52);
    }

    private static void manyAtOnce() {
        Due.by("Promise 6: n ticks are n times one");
        for (int n : new int[] {2, 3, 4, 11, 12, 13, 50}) {
            Net x = manyAtOnceBegins();
            Net y = manyAtOnceBegins();
            x.tick(n);
            for (int i = 0; i < n; i++) {
                y.tick(1);
            }
            Due.is("frames", x.frames(), y.frames());
            for (int k = 0; k < 12; k++) {
                Due.is("goal", x.goal(k), y.goal(k));
                Due.is("length", x.length(k), y.length(k));
                Due.is("head", x.octet(k, 0), y.octet(k, 0));
                Due.is("address", x.octet(k, 1), y.octet(k, 1));
            }
            for (int d = 0; d < 3; d++) {
                Due.is("state", x.state(d), y.state(d));
                Due.is("failed", x.tally(d, 1), y.tally(d, 1));
            }
            Due.is("time", x.tick(1), y.tick(1));
        }
        Net z = Scene.joined(0);
        z.send(0, 1, 1, true, false);
        z.tick(50);
        Due.is("sent four times in one call", z.frames(), 4);
        Due.is("failed once", z.tally(0, 1), 1);
    }

    /** Device 0 and 1 send confirmed frames at different times, of which one is heard, and device 2 a JOIN. */
    private static Net manyAtOnceBegins() {
        Net x = Scene.joined(0);
        Scene.bringIn(x, 1);
        x.send(1, 1, 1, true, false);
        x.tick(1);
        x.send(0, 2, 1, true, true);
        x.hear(1, 1);
        x.join(2);
        return x;
    }

    private static void serverInTurn() {
        Due.by("Terms: the server, for each device in turn, sends down what is due");
        Net x = Scene.fresh();
        for (int d = 2; d >= 0; d--) {
            x.join(d);
        }
        for (int k = 0; k < 3; k++) {
            x.hear(k, 0);
        }
        x.tick(1);
        Due.is("three ACCEPTs", x.frames(), 6);
        for (int d = 0; d < 3; d++) {
            Due.is("goal", x.goal(3 + d), d);
            Scene.bytes("ACCEPT " + d, x, 3 + d, Scene.acceptFrame(d, 3 - d, 1));
        }
    }

    private static void serverBeforeDevices() {
        Due.by("Terms: Then each device in turn does what it does at that time");
        Net x = Scene.fresh();
        for (int d = 2; d >= 0; d--) {
            Scene.bringIn(x, d);
        }
        for (int d = 2; d >= 0; d--) {
            x.send(d, d, 1, true, false);
        }
        x.tick(2);
        x.hear(0, 0);
        x.tick(1);
        Due.is("an ANSWER and three frames again", x.frames(), 7);
        Due.is("the server is first", x.goal(3), 2);
        for (int d = 0; d < 3; d++) {
            Due.is("devices in turn", x.octet(4 + d, 1), d + 1);
        }
    }

    private static void dueOnce() {
        Due.by("Terms: and nothing is due any more");
        Net x = Scene.fresh();
        x.join(0);
        x.hear(0, 0);
        x.tick(1);
        Due.is("an ACCEPT", x.frames(), 2);
        x.tick(50);
        Due.is("no other", x.frames(), 2);
        Net y = Scene.joined(0);
        y.send(0, 1, 1, false, true);
        y.hear(0, 0);
        y.tick(1);
        Due.is("an ANSWER", y.frames(), 2);
        y.tick(50);
        Due.is("no other", y.frames(), 2);
    }

    private static void answers() {
        Due.by("Terms: as ANSWER a frame 96 with the next count down, control, options and the queue's first payload");
        for (int form = 0; form < 4; form++) {
            for (int queued = 0; queued <= 4; queued++) {
                for (int n = 1; n <= 8; n++) {
                    answerOnce(form % 2 == 1, form >= 2, queued, n);
                }
            }
        }
    }

    private static void answerOnce(boolean confirmed, boolean check, int queued, int n) {
        long payload = 0x8102030405060708L;
        Net x = Scene.joined(0);
        for (int i = 0; i < queued; i++) {
            x.queue(0, payload + i, n);
        }
        x.send(0, 5, 1, confirmed, check);
        x.hear(0, 1);
        x.tick(1);
        String what = "confirmed " + confirmed + ", check " + check + ", queued " + queued + ", n " + n;
        boolean answered = confirmed || check || queued > 0;
        Due.is(what, x.frames(), answered ? 2 : 1);
        if (answered) {
            int control = (confirmed ? 32 : 0) + (queued > 1 ? 16 : 0) + (check ? 3 : 0);
            Due.is(what + ": goal", x.goal(1), 0);
            Scene.bytes(what, x, 1, Scene.downFrame(0, control, 0, 1, payload, queued > 0 ? n : 0));
            x.reach(1);
            Due.is(what + ": taken", x.received(0, false), queued > 0 ? 1 : 0);
            Due.is(what + ": waits no more", x.state(0), 2);
            Due.is(what + ": check", x.tally(0, 2), check ? 1 : 0);
            Due.is(what + ": acknowledged", x.tally(0, 0), confirmed ? 1 : 0);
        }
        int left = Math.max(0, queued - 1);
        Due.is(what + ": left the queue", x.queue(0, 1, 1), left + 1);
    }

    private static void moreThanOneInTheQueue() {
        Due.by("Terms: plus 16 if the queue has more than one payload");
        int[] want = {32, 32, 48, 48, 48};
        for (int queued = 0; queued <= 4; queued++) {
            Net x = Scene.joined(0);
            for (int i = 0; i < queued; i++) {
                x.queue(0, i, 1);
            }
            Scene.ask(x, 0, true, false);
            Due.is("control with " + queued + " queued", x.octet(0, 5), want[queued]);
        }
    }

    private static void queuedLate() {
        Due.by("Terms: an ANSWER is due if the queue is not empty, when the frame is heard");
        Net x = Scene.joined(0);
        x.send(0, 5, 1, false, false);
        x.hear(0, 0);
        x.queue(0, 6, 1);
        x.tick(1);
        Due.is("it was empty", x.frames(), 1);
        Net y = Scene.joined(0);
        y.send(0, 5, 1, true, false);
        y.hear(0, 0);
        y.queue(0, 6, 1);
        y.queue(0, 7, 1);
        y.tick(1);
        Scene.bytes("the ANSWER takes what is queued by then", y, 1, Scene.downFrame(0, 48, 0, 0, 6, 1));
    }

    private static void countDownGrows() {
        Due.by("Terms: the next count down, which grows by 1 (0 at first)");
        Net x = Scene.joined(0);
        for (int count = 0; count < 10; count++) {
            Scene.ask(x, 0, true, false);
            Scene.bytes("count " + count, x, 0, Scene.downFrame(0, 32, count, 0, 0, 0));
            x.reach(0);
        }
        Due.is("all taken", x.tally(0, 0), 10);
        Scene.bringIn(x, 0);
        Scene.ask(x, 0, true, false);
        Due.is("0 again in a new session", x.octet(0, 6), 0);
    }

    private static void joiningEnds() {
        Due.by("Terms: At the time T + 3, if it still waits: if it is JOINING, it is OUT");
        Net x = Scene.fresh();
        x.tick(7);
        x.join(0);
        for (int since = 0; since < 3; since++) {
            Due.is("at T + " + since, x.state(0), 11);
            x.tick(1);
        }
        Due.is("at T + 3", x.state(0), 0);
        Due.is("it is not sent again", x.frames(), 1);
        Due.is("that is not FAILED", x.tally(0, 1), 0);
    }

    private static void waitingEnds() {
        Due.by("Terms: At the time T + 3, if it still waits, it waits no more");
        Net x = Scene.joined(0);
        x.send(0, 1, 1, false, false);
        for (int since = 0; since < 3; since++) {
            Due.is("at T + " + since, x.state(0), 12);
            x.tick(1);
        }
        Due.is("at T + 3", x.state(0), 2);
    }

    private static void answerInFullAir() {
        Due.by("Terms: one that is sent when there are twelve is lost (an ANSWER)");
        Net x = Scene.joined(0);
        x.queue(0, 61, 1);
        x.queue(0, 62, 1);
        x.send(0, 1, 1, true, true);
        x.hear(0, 0);
        Scene.fill(x);
        x.tick(1);
        Due.is("frames", x.frames(), 12);
        Due.is("goal of the last", x.goal(11), 3);
        Due.is("its payload has left the queue", x.queue(0, 63, 1), 2);
        Scene.clear(x);
        x.tick(1);
        Due.is("it is due no more", x.frames(), 0);
        x.replay(0);
        Scene.bytes("it is remembered", x, 0, Scene.downFrame(0, 51, 0, 1, 61, 1));
        x.lose(0);
        x.replay(1);
        x.hear(0, 1);
        x.lose(0);
        x.tick(1);
        Due.is("the answer, and the frame again", x.frames(), 2);
        Scene.bytes("the count down has grown", x, 0, Scene.downFrame(0, 48, 1, 0, 62, 1));
    }

    private static void acceptInFullAir() {
        Due.by("Terms: one that is sent when there are twelve is lost (an ACCEPT)");
        Net x = Scene.fresh();
        x.join(0);
        x.hear(0, 0);
        Scene.fill(x);
        x.tick(1);
        Due.is("frames", x.frames(), 12);
        Due.is("goal of the last", x.goal(11), 3);
        Scene.clear(x);
        x.tick(1);
        Due.is("it is due no more", x.frames(), 0);
        x.replay(0);
        Scene.bytes("it is remembered", x, 0, Scene.acceptFrame(0, 1, 1));
        x.reach(0);
        Due.is("and is taken", x.state(0), 2);
    }

    private static void lastPlaceInTheAir() {
        Due.by("Terms: UNDER WAY are at most twelve frames: the twelfth still finds a place");
        Net x = Scene.fresh();
        x.join(2);
        x.join(1);
        x.hear(0, 0);
        x.hear(1, 0);
        Scene.fill(x);
        x.lose(0);
        x.tick(1);
        Due.is("frames", x.frames(), 12);
        Due.is("the first device's ACCEPT", x.goal(11), 1);
        Due.is("the second was lost", x.lose(11) && x.replay(0), true);
        Due.is("but is remembered", x.goal(11), 2);
    }

    private static void refusedChangesNothing() {
        Due.by("Promise 6: a tick that is refused changes nothing");
        for (int n : new int[] {0, -1, 51}) {
            Net x = Scene.fresh();
            x.join(0);
            x.hear(0, 0);
            Due.is("tick(" + n + ")", x.tick(n), -1);
            Due.is("nothing is sent", x.frames(), 1);
            Due.is("no wait ends", x.state(0), 11);
            Due.is("the time is as it was", x.tick(1), 1);
            Due.is("it was still due", x.frames(), 2);
            x.reach(1);
            x.send(0, 1, 1, false, false);
            x.tick(2);
            x.tick(n);
            Due.is("it waits on", x.state(0), 12);
            x.tick(1);
            Due.is("until T + 3", x.state(0), 2);
        }
    }
}
