/** Promise 2: join. */
public final class JoinTest {
    private JoinTest() {
    }

    public static void main(String[] args) {
        sendsJoin();
        nonceGrows();
        noSuchDevice();
        waitsWhileJoining();
        waitsWhileIn();
        waitsThroughAllSendings();
        takenWhenItWaitsNoMore();
        sessionIsGone();
        oldSessionsFrameDoesNothing();
        fullAir();
        refusedChangesNothing();
        Due.end();
    }

    private static void sendsJoin() {
        Due.by("Promise 2: Device d sends a JOIN; it is JOINING and waits");
        Net x = Scene.fresh();
        for (int d = 0; d < 3; d++) {
            Due.is("join(" + d + ")", x.join(d), 1);
            Due.is("state", x.state(d), 11);
            Due.is("frames", x.frames(), d + 1);
            Due.is("goal", x.goal(d), 3);
            Scene.bytes("JOIN of " + d, x, d, Scene.joinFrame(d, 1));
        }
    }

    private static void nonceGrows() {
        Due.by("Promise 2: its nonce grows by 1, and is in the frame. Answers the nonce");
        Net x = Scene.fresh();
        for (int nonce = 1; nonce <= 5; nonce++) {
            Due.is("join(2)", x.join(2), nonce);
            Scene.bytes("nonce " + nonce, x, 0, Scene.joinFrame(2, nonce));
            x.tick(3);
            x.lose(0);
        }
        Due.is("another device's first nonce", x.join(1), 1);
        Net y = Scene.fresh();
        for (int nonce = 1; nonce <= 255; nonce++) {
            Due.is("join(0)", y.join(0), nonce);
            y.tick(3);
        }
        Due.is("a nonce of two bytes", y.join(0), 256);
    }

    private static void noSuchDevice() {
        Due.by("Promise 2: NONE when there is no such device");
        Net x = Scene.fresh();
        for (int d : Scene.NO_DEVICES) {
            Due.is("join(" + d + ")", x.join(d), -1);
        }
        Due.is("frames", x.frames(), 0);
        Due.is("the first device", x.join(0), 1);
        Due.is("the last device", x.join(2), 1);
    }

    private static void waitsWhileJoining() {
        Due.by("Promise 2: NONE when it waits, JOINING");
        Net x = Scene.fresh();
        x.join(0);
        for (int since = 0; since < 3; since++) {
            Due.is("join at T + " + since, x.join(0), -1);
            Due.is("state at T + " + since, x.state(0), 11);
            x.tick(1);
        }
        Due.is("join at T + 3", x.join(0), 2);
    }

    private static void waitsWhileIn() {
        Due.by("Promise 2: NONE when it waits, IN");
        Net x = Scene.joined(0);
        x.send(0, 1, 1, false, false);
        for (int since = 0; since < 3; since++) {
            Due.is("join at T + " + since, x.join(0), -1);
            Due.is("state at T + " + since, x.state(0), 12);
            x.tick(1);
        }
        Due.is("join at T + 3", x.join(0), 2);
    }

    private static void waitsThroughAllSendings() {
        Due.by("Promise 2: NONE when it waits, for a confirmed frame that is sent again");
        Net x = Scene.joined(0);
        x.send(0, 1, 1, true, false);
        for (int since = 0; since < 12; since++) {
            Due.is("join at T + " + since, x.join(0), -1);
            x.tick(1);
        }
        Due.is("join at T + 12", x.join(0), 2);
    }

    private static void takenWhenItWaitsNoMore() {
        Due.by("Promise 2: join at once when a frame down has ended the wait");
        Net x = Scene.joined(0);
        Scene.ask(x, 0, true, false);
        Due.is("join before", x.join(0), -1);
        x.reach(0);
        Due.is("join behind it", x.join(0), 2);
    }

    private static void sessionIsGone() {
        Due.by("Promise 2: A session that it had is gone");
        Net x = Scene.joined(0);
        x.skip(0, 9);
        Due.is("join when IN", x.join(0), 2);
        Due.is("state", x.state(0), 11);
        Due.is("send when JOINING", x.send(0, 1, 1, false, false), -1);
        Due.is("skip when JOINING", x.skip(0, 1), -1);
        x.tick(3);
        Due.is("OUT at T + 3", x.state(0), 0);
        Due.is("send when OUT", x.send(0, 1, 1, false, false), -1);
        Due.is("skip when OUT", x.skip(0, 1), -1);
        x.lose(0);
        Scene.bringIn(x, 0);
        Due.is("the count is 0 again", x.send(0, 1, 1, false, false), 0);
    }

    private static void oldSessionsFrameDoesNothing() {
        Due.by("Promise 2: A session that it had is gone, and its frames down do nothing");
        Net x = Scene.joined(0);
        x.queue(0, 8, 1);
        Scene.ask(x, 0, false, true);
        x.tick(2);
        x.join(0);
        x.tick(1);
        Due.is("reach", x.reach(0), true);
        Due.is("nothing is received", x.received(0, false), 0);
        Due.is("no check", x.tally(0, 2), 0);
        Due.is("it waits on", x.state(0), 11);
    }

    private static void fullAir() {
        Due.by("Terms: one that is sent when there are twelve is lost (a JOIN)");
        Net x = Scene.fresh();
        x.join(1);
        Scene.fill(x);
        Due.is("join", x.join(0), 1);
        Due.is("state", x.state(0), 11);
        Due.is("frames", x.frames(), 12);
        Due.is("the last one is not the JOIN", x.octet(11, 9), 1);
        x.tick(3);
        Due.is("OUT", x.state(0), 0);
        Due.is("the nonce has grown", x.join(0), 2);
    }

    private static void refusedChangesNothing() {
        Due.by("Promise 2: a join that is refused changes nothing");
        Net x = Scene.joined(0);
        x.send(0, 7, 1, true, false);
        x.tick(2);
        Due.is("join", x.join(0), -1);
        Due.is("state", x.state(0), 12);
        Due.is("frames", x.frames(), 1);
        x.tick(1);
        Due.is("sent again at T + 3 all the same", x.frames(), 2);
        Scene.bytes("the same frame", x, 1, Scene.upFrame(0, true, false, 0, 7, 1));
        x.hear(1, 0);
        x.tick(1);
        x.reach(2);
        Due.is("the session stands", x.tally(0, 0), 1);
        Due.is("the nonce has not grown", x.join(0), 2);
        Due.is("replay", x.replay(5), true);
        Scene.bytes("no JOIN was remembered", x, 3, Scene.joinFrame(0, 1));
    }
}
