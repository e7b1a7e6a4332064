/** The promises of the document, one after the other. */
public final class PromisesTest {
    private static final int SEED = 77;
    private static final int[] NO_DEVICES = {-1, 3, Integer.MIN_VALUE, Integer.MAX_VALUE};

    private PromisesTest() {
    }

    public static void main(String[] args) {
        newObject();
        newObjectKeys();
        cryptIsRight();
        joinSends();
        joinRefused();
        joinForgetsSession();
        sendForms();
        sendCounts();
        sendRefused();
        sendAgainUntilItFails();
        sendWhenAirIsFull();
        skipMoves();
        skipRefused();
        queueKeepsOrder();
        queueRefused();
        tickCounts();
        tickSendsInTurn();
        tickAnswers();
        tickAnswersPayloadQueuedLate();
        tickEndsWaits();
        hearAnswers();
        hearJoin();
        hearJoinKeepsQueue();
        hearSpoiledJoin();
        hearTwoJoinsBeforeTick();
        hearEachFrameOnce();
        hearSetOfGateways();
        hearConfirmedAgain();
        hearReplacesWhatIsDue();
        hearCountWindow();
        hearSpoiledData();
        hearOldSession();
        hearForgedData();
        hearForgedNonce();
        sessionsBeginAnew();
        reachAnswers();
        reachAccept();
        reachAcceptWindow();
        reachOldAccept();
        reachData();
        reachDataWindow();
        reachConfirmedNeedsAcknowledgement();
        reachUnconfirmedIsNeverAcknowledged();
        reachSpoiledData();
        reachForgedData();
        loseFrames();
        replayFrames();
        replayRemembersWhatWasSent();
        spoilFrames();
        readFrames();
        stateTells();
        receivedAndPayload();
        tallies();
        Due.end();
    }

    // Helpers: each leaves nothing under way.

    /** Device d sends a JOIN that is heard, and its ACCEPT reaches it a tick later. */
    private static void bringIn(WideNet x, int d) {
        x.join(d);
        x.hear(x.frames() - 1, 0);
        x.lose(x.frames() - 1);
        x.tick(1);
        x.reach(x.frames() - 1);
        Due.is("device " + d + " is in", x.state(d), 2);
        Due.is("frames behind joining", x.frames(), 0);
    }

    private static WideNet joined(int d) {
        WideNet x = new WideNet(SEED);
        bringIn(x, d);
        return x;
    }

    private static byte[][] firstKeys(int d) {
        return Crypt.keys(Crypt.root(SEED, d), 1, 1);
    }

    private static byte[] upFrame(int d, boolean confirmed, boolean check, long count, long payload, int n) {
        return Crypt.dataFrame(firstKeys(d), confirmed ? 128 : 64, Crypt.address(d, 1), check ? 1 : 0, count,
            check ? new int[] {2} : new int[0], Crypt.lowest(payload, n));
    }

    private static byte[] downFrame(int d, int control, long count, int gateways, long payload, int n) {
        return Crypt.dataFrame(firstKeys(d), 96, Crypt.address(d, 1), control, count,
            control % 16 == 3 ? new int[] {2, 10, gateways} : new int[0], Crypt.lowest(payload, n));
    }

    private static void bytes(String what, WideNet x, int k, byte[] want) {
        Due.is(what + ": length", x.length(k), want.length);
        for (int i = 0; i < want.length; i++) {
            Due.is(what + ": octet " + i, x.octet(k, i), want[i] & 255);
        }
    }

    private static void clear(WideNet x) {
        while (x.frames() > 0) {
            x.lose(0);
        }
    }

    // Promise 1

    private static void newObject() {
        WideNet x = new WideNet(SEED);
        Due.is("new: frames", x.frames(), 0);
        for (int d = 0; d < 3; d++) {
            Due.is("new: state", x.state(d), 0);
            for (int what = 0; what < 4; what++) {
                Due.is("new: tally", x.tally(d, what), 0);
            }
            Due.is("new: received up", x.received(d, true), 0);
            Due.is("new: received down", x.received(d, false), 0);
            Due.is("new: payload", x.payload(d, true, 0), -1);
        }
        Due.is("new: replay", x.replay(0), false);
        Due.is("new: first tick", x.tick(1), 1);
        Due.is("new: nothing was due", x.frames(), 0);
    }

    private static void newObjectKeys() {
        int[] seeds = {0, 1, 255, 256, -1, -5, -257, 12345, Integer.MAX_VALUE, Integer.MIN_VALUE};
        for (int seed : seeds) {
            WideNet x = new WideNet(seed);
            for (int d = 0; d < 3; d++) {
                x.join(d);
                bytes("seed " + seed + ", device " + d, x, d, Crypt.joinFrame(Crypt.root(seed, d), d, 1));
            }
        }
    }

    /** The examples of FIPS 197 and RFC 4493, so that what the tests lean on is right. */
    private static void cryptIsRight() {
        byte[] key = new java.math.BigInteger("2b7e151628aed2a6abf7158809cf4f3c", 16).toByteArray();
        byte[] row = new java.math.BigInteger("6bc1bee22e409f96e93d7e117393172aae2d8a571e03ac9c9eb76fac45af8e51"
            + "30c81c46a35ce411", 16).toByteArray();
        String[] want = {"bb1d6929e95937287fa37d129b756746", "070a16b46b4d4144f79bdd9dd04a287c",
            "dfa66747de9ae63030ca32611497c827"};
        int[] lengths = {0, 16, 40};
        for (int i = 0; i < 3; i++) {
            String got = String.format("%032x",
                new java.math.BigInteger(1, Crypt.mac(key, java.util.Arrays.copyOf(row, lengths[i]))));
            Due.is("MAC " + got, got.equals(want[i]), true);
        }
    }

    // Promise 2

    private static void joinSends() {
        WideNet x = new WideNet(SEED);
        for (int d = 0; d < 3; d++) {
            Due.is("join", x.join(d), 1);
            Due.is("join: state", x.state(d), 11);
            Due.is("join: frames", x.frames(), d + 1);
            Due.is("join: goal", x.goal(d), 3);
            bytes("join", x, d, Crypt.joinFrame(Crypt.root(SEED, d), d, 1));
        }
        x.tick(3);
        clear(x);
        Due.is("join again", x.join(1), 2);
        bytes("join again", x, 0, Crypt.joinFrame(Crypt.root(SEED, 1), 1, 2));
        WideNet y = new WideNet(SEED);
        for (int nonce = 1; nonce <= 150; nonce++) {
            Due.is("nonce", y.join(2), nonce);
            y.tick(3);
            y.lose(0);
        }
    }

    private static void joinRefused() {
        WideNet x = new WideNet(SEED);
        for (int d : NO_DEVICES) {
            Due.is("join(" + d + ")", x.join(d), -1);
        }
        Due.is("refused joins send nothing", x.frames(), 0);
        Due.is("join", x.join(0), 1);
        Due.is("join while joining", x.join(0), -1);
        x.tick(2);
        Due.is("join while still joining", x.join(0), -1);
        Due.is("refused join sends nothing", x.frames(), 1);
        x.tick(1);
        Due.is("join after three ticks", x.join(0), 2);
        WideNet y = joined(0);
        y.send(0, 1, 1, false, false);
        Due.is("join while waiting", y.join(0), -1);
        Due.is("state stays", y.state(0), 12);
        y.tick(3);
        Due.is("join when no more waiting", y.join(0), 2);
    }

    private static void joinForgetsSession() {
        WideNet x = joined(0);
        Due.is("join from in", x.join(0), 2);
        Due.is("joining again", x.state(0), 11);
        Due.is("send while joining", x.send(0, 1, 1, false, false), -1);
        Due.is("skip while joining", x.skip(0, 1), -1);
        x.tick(3);
        Due.is("out behind joining", x.state(0), 0);
        Due.is("send when out", x.send(0, 1, 1, false, false), -1);
    }

    // Promise 3

    private static void sendForms() {
        long payload = 0xf1e2d3c4b5a69788L;
        for (int d = 0; d < 3; d++) {
            for (int n = 0; n <= 8; n++) {
                for (int form = 0; form < 4; form++) {
                    boolean confirmed = form % 2 == 1;
                    boolean check = form >= 2;
                    WideNet x = joined(d);
                    String what = "send " + n + " " + confirmed + " " + check;
                    Due.is(what, x.send(d, payload, n, confirmed, check), 0);
                    Due.is(what + ": state", x.state(d), 12);
                    Due.is(what + ": goal", x.goal(0), 3);
                    bytes(what, x, 0, upFrame(d, confirmed, check, 0, payload, n));
                    Due.is(what + ": heard", x.hear(0, 1), true);
                    Due.is(what + ": received", x.received(d, true), n == 0 ? 0 : 1);
                    long low = n == 8 ? payload : payload & ((1L << (8 * n)) - 1);
                    Due.is(what + ": payload", x.payload(d, true, 0), n == 0 ? -1 : low);
                }
            }
        }
    }

    private static void sendCounts() {
        WideNet x = joined(1);
        for (int count = 0; count < 20; count++) {
            Due.is("send counts", x.send(1, count, 1, false, false), count);
            bytes("count " + count, x, 0, upFrame(1, false, false, count, count, 1));
            x.tick(3);
            x.lose(0);
        }
        x.skip(1, 65500);
        x.skip(1, 70000);
        Due.is("send at a great count", x.send(1, 5, 3, true, true), 135520);
        bytes("great count", x, 0, upFrame(1, true, true, 135520, 5, 3));
        clear(x);
        WideNet y = joined(1);
        y.send(1, 1, 1, false, false);
        y.tick(3);
        clear(y);
        bringIn(y, 1);
        Due.is("count begins anew in a session", y.send(1, 1, 1, false, false), 0);
    }

    private static void sendRefused() {
        WideNet x = new WideNet(SEED);
        Due.is("send when out", x.send(0, 1, 1, false, false), -1);
        x.join(0);
        Due.is("send when joining", x.send(0, 1, 1, false, false), -1);
        WideNet y = joined(0);
        for (int d : NO_DEVICES) {
            Due.is("send from device " + d, y.send(d, 1, 1, false, false), -1);
        }
        for (int n : new int[] {-1, 9, 64, Integer.MIN_VALUE, Integer.MAX_VALUE}) {
            Due.is("send of n " + n, y.send(0, 1, n, false, false), -1);
        }
        Due.is("send from another", y.send(1, 1, 1, false, false), -1);
        Due.is("refused sends send nothing", y.frames(), 0);
        Due.is("refused sends do not wait", y.state(0), 2);
        Due.is("refused sends do not count", y.send(0, 1, 1, false, false), 0);
        Due.is("send while waiting", y.send(0, 1, 1, false, false), -1);
        y.tick(2);
        Due.is("send while still waiting", y.send(0, 1, 1, false, false), -1);
        Due.is("one frame", y.frames(), 1);
        y.tick(1);
        Due.is("send when no more waiting", y.send(0, 1, 1, false, false), 1);
    }

    private static void sendAgainUntilItFails() {
        WideNet x = joined(2);
        byte[] want = upFrame(2, true, true, 0, 99, 2);
        x.send(2, 99, 2, true, true);
        x.spoil(0, 3, 7);
        for (int times = 1; times < 4; times++) {
            x.tick(2);
            Due.is("not yet again", x.frames(), times);
            Due.is("waits on", x.state(2), 12);
            x.tick(1);
            Due.is("again", x.frames(), times + 1);
            Due.is("waits anew", x.state(2), 12);
            bytes("the same frame", x, times, want);
            Due.is("not failed yet", x.tally(2, 1), 0);
        }
        x.tick(2);
        Due.is("the fourth waits", x.state(2), 12);
        x.tick(1);
        Due.is("failed", x.tally(2, 1), 1);
        Due.is("out", x.state(2), 0);
        Due.is("not a fifth time", x.frames(), 4);
        x.tick(10);
        Due.is("nothing more", x.frames(), 4);
        WideNet y = joined(2);
        y.send(2, 99, 2, false, false);
        y.tick(3);
        Due.is("unconfirmed: not again", y.frames(), 1);
        Due.is("unconfirmed: in", y.state(2), 2);
        Due.is("unconfirmed: not failed", y.tally(2, 1), 0);
    }

    private static void sendWhenAirIsFull() {
        WideNet x = joined(0);
        for (int i = 0; i < 12; i++) {
            Due.is("fill", x.replay(0), true);
        }
        Due.is("send when full", x.send(0, 4, 1, true, false), 0);
        Due.is("it is lost", x.frames(), 12);
        Due.is("goal of the last", x.goal(11), 0);
        Due.is("it waits all the same", x.state(0), 12);
        Due.is("join when full", x.join(1), 1);
        Due.is("joining all the same", x.state(1), 11);
        clear(x);
        x.replay(1);
        bytes("the lost one is remembered", x, 0, upFrame(0, true, false, 0, 4, 1));
        x.tick(3);
        Due.is("it is sent again", x.frames(), 2);
        bytes("again", x, 1, upFrame(0, true, false, 0, 4, 1));
    }

    // Promise 4

    private static void skipMoves() {
        WideNet x = joined(0);
        Due.is("skip 1", x.skip(0, 1), 1);
        Due.is("skip 70000", x.skip(0, 70000), 70001);
        Due.is("skip 5", x.skip(0, 5), 70006);
        Due.is("send behind", x.send(0, 1, 1, false, false), 70006);
        bytes("send behind", x, 0, upFrame(0, false, false, 70006, 1, 1));
        WideNet y = joined(0);
        long count = 0;
        for (int i = 0; i < 400; i++) {
            count += 70000;
            Due.is("skip on", y.skip(0, 70000), count);
        }
        Due.is("send far on", y.send(0, 1, 1, false, false), count);
        bytes("far on", y, 0, upFrame(0, false, false, count, 1, 1));
    }

    private static void skipRefused() {
        WideNet x = joined(0);
        for (int d : NO_DEVICES) {
            Due.is("skip of device " + d, x.skip(d, 1), -1);
        }
        for (int n : new int[] {0, -1, 70001, Integer.MIN_VALUE, Integer.MAX_VALUE}) {
            Due.is("skip by " + n, x.skip(0, n), -1);
        }
        Due.is("skip when out", x.skip(1, 1), -1);
        x.join(1);
        Due.is("skip when joining", x.skip(1, 1), -1);
        Due.is("refused skips change nothing", x.send(0, 1, 1, false, false), 0);
        Due.is("skip while waiting", x.skip(0, 1), -1);
        x.tick(3);
        Due.is("skip behind waiting", x.skip(0, 1), 2);
    }

    // Promise 5

    private static void queueKeepsOrder() {
        WideNet x = joined(1);
        long[] queued = {0x1122334455667788L, -1, 0x8000000000000000L, 255};
        int[] n = {3, 1, 8, 2};
        long[] want = {0x667788, 255, 0x8000000000000000L, 255};
        for (int i = 0; i < 4; i++) {
            Due.is("queue", x.queue(1, queued[i], n[i]), i + 1);
        }
        Due.is("a queue of another", x.queue(0, 1, 1), 1);
        for (int i = 0; i < 4; i++) {
            x.send(1, 0, 0, false, false);
            x.hear(0, 0);
            x.tick(1);
            bytes("down " + i, x, 1, downFrame(1, i < 3 ? 16 : 0, i, 0, queued[i], n[i]));
            x.reach(1);
            x.lose(0);
            Due.is("from the queue", x.payload(1, false, i), want[i]);
        }
        x.send(1, 0, 0, false, false);
        x.hear(0, 0);
        x.tick(1);
        Due.is("nothing more in the queue", x.frames(), 1);
        Due.is("room again", x.queue(1, 1, 1), 1);
    }

    private static void queueRefused() {
        WideNet x = new WideNet(SEED);
        for (int d : NO_DEVICES) {
            Due.is("queue for device " + d, x.queue(d, 1, 1), -1);
        }
        for (int n : new int[] {0, -1, 9, Integer.MIN_VALUE, Integer.MAX_VALUE}) {
            Due.is("queue of n " + n, x.queue(0, 1, n), -1);
        }
        for (int i = 1; i <= 4; i++) {
            Due.is("queue for one that is out", x.queue(0, i, 8), i);
        }
        Due.is("a fifth", x.queue(0, 5, 8), -1);
        Due.is("still a fifth", x.queue(0, 5, 1), -1);
    }

    // Promise 6

    private static void tickCounts() {
        WideNet x = new WideNet(SEED);
        Due.is("tick 1", x.tick(1), 1);
        Due.is("tick 50", x.tick(50), 51);
        for (int n : new int[] {0, -1, 51, Integer.MIN_VALUE, Integer.MAX_VALUE}) {
            Due.is("tick " + n, x.tick(n), -1);
        }
        Due.is("refused ticks change nothing", x.tick(2), 53);
        WideNet y = new WideNet(SEED);
        y.join(0);
        y.tick(0);
        y.tick(51);
        Due.is("refused ticks end no wait", y.state(0), 11);
    }

    private static void tickSendsInTurn() {
        WideNet x = new WideNet(SEED);
        for (int d = 2; d >= 0; d--) {
            x.join(d);
        }
        for (int k = 0; k < 3; k++) {
            x.hear(k, 0);
        }
        x.tick(1);
        Due.is("three accepts", x.frames(), 6);
        for (int d = 0; d < 3; d++) {
            Due.is("accept goes to", x.goal(3 + d), d);
            bytes("accept " + d, x, 3 + d, Crypt.acceptFrame(Crypt.root(SEED, d), 3 - d, Crypt.address(d, 1)));
        }
        x.tick(1);
        Due.is("nothing is due any more", x.frames(), 6);
        for (int i = 0; i < 3; i++) {
            x.reach(3);
        }
        clear(x);
        for (int d = 0; d < 3; d++) {
            Due.is("all in", x.state(d), 2);
            x.send(d, d, 1, true, false);
        }
        x.tick(2);
        x.hear(2, 0);
        x.tick(1);
        Due.is("answer, then the devices' frames", x.frames(), 7);
        Due.is("the server is first", x.goal(3), 2);
        for (int d = 0; d < 3; d++) {
            Due.is("devices in turn", x.octet(4 + d, 1), d + 1);
        }
    }

    private static void tickAnswers() {
        for (int form = 0; form < 4; form++) {
            boolean confirmed = form % 2 == 1;
            boolean check = form >= 2;
            for (int queued = 0; queued <= 3; queued++) {
                for (int n = 1; n <= 8; n++) {
                    answerOnce(confirmed, check, queued, n);
                }
            }
        }
    }

    private static void answerOnce(boolean confirmed, boolean check, int queued, int n) {
        WideNet x = joined(0);
        for (int i = 0; i < queued; i++) {
            x.queue(0, 0x0102030405060708L + i, n);
        }
        x.send(0, 5, 1, confirmed, check);
        x.hear(0, 1);
        x.tick(1);
        String what = "answer " + confirmed + " " + check + " " + queued + " " + n;
        boolean answered = confirmed || check || queued > 0;
        Due.is(what, x.frames(), answered ? 2 : 1);
        if (answered) {
            int control = (confirmed ? 32 : 0) + (queued > 1 ? 16 : 0) + (check ? 3 : 0);
            Due.is(what + ": goal", x.goal(1), 0);
            bytes(what, x, 1, downFrame(0, control, 0, 1, 0x0102030405060708L, queued > 0 ? n : 0));
            x.reach(1);
            Due.is(what + ": taken", x.received(0, false), queued > 0 ? 1 : 0);
            Due.is(what + ": waits no more", x.state(0), 2);
            Due.is(what + ": check", x.tally(0, 2), check ? 1 : 0);
            Due.is(what + ": acknowledged", x.tally(0, 0), confirmed ? 1 : 0);
        }
        Due.is(what + ": left the queue", x.queue(0, 1, 1), Math.max(0, queued - 1) + 1);
    }

    private static void tickAnswersPayloadQueuedLate() {
        WideNet x = joined(0);
        x.send(0, 5, 1, false, false);
        x.hear(0, 0);
        x.queue(0, 6, 1);
        x.tick(1);
        Due.is("not due when it was heard", x.frames(), 1);
        WideNet y = joined(0);
        y.send(0, 5, 1, true, false);
        y.hear(0, 0);
        y.queue(0, 6, 1);
        y.queue(0, 7, 1);
        y.tick(1);
        bytes("the answer takes what is queued by then", y, 1, downFrame(0, 48, 0, 0, 6, 1));
    }

    private static void tickEndsWaits() {
        WideNet x = new WideNet(SEED);
        x.tick(7);
        x.join(0);
        x.tick(2);
        Due.is("joining at T + 2", x.state(0), 11);
        x.tick(1);
        Due.is("out at T + 3", x.state(0), 0);
        WideNet y = joined(0);
        y.send(0, 1, 1, true, false);
        y.tick(12);
        Due.is("many ticks at once: sent four times", y.frames(), 4);
        Due.is("many ticks at once: out", y.state(0), 0);
        WideNet z = joined(0);
        z.send(0, 1, 1, true, false);
        z.tick(11);
        Due.is("waits for the fourth", z.state(0), 12);
    }

    // Promise 7

    private static void hearAnswers() {
        WideNet x = new WideNet(SEED);
        Due.is("hear nothing", x.hear(0, 0), false);
        x.join(0);
        for (int g : new int[] {-1, 2, Integer.MIN_VALUE, Integer.MAX_VALUE}) {
            Due.is("gateway " + g, x.hear(0, g), false);
        }
        for (int k : new int[] {-1, 1, 12, Integer.MIN_VALUE, Integer.MAX_VALUE}) {
            Due.is("frame " + k, x.hear(k, 0), false);
        }
        x.tick(1);
        Due.is("refused: nothing was heard", x.frames(), 1);
        Due.is("hear", x.hear(0, 1), true);
        Due.is("it stays", x.frames(), 1);
        x.tick(1);
        Due.is("a frame down", x.goal(1), 0);
        Due.is("no gateway hears it", x.hear(1, 0), false);
        Due.is("hear again", x.hear(0, 0), true);
    }

    private static void hearJoin() {
        WideNet x = new WideNet(SEED);
        x.join(0);
        x.tick(3);
        x.join(0);
        x.hear(1, 0);
        Due.is("sessions", x.tally(0, 3), 1);
        x.hear(1, 1);
        x.hear(0, 1);
        Due.is("no nonce that is not greater", x.tally(0, 3), 1);
        x.tick(1);
        Due.is("one accept", x.frames(), 3);
        bytes("accept", x, 2, Crypt.acceptFrame(Crypt.root(SEED, 0), 1, Crypt.address(0, 1)));
        x.hear(1, 0);
        x.tick(1);
        Due.is("not due again", x.frames(), 3);
        x.tick(1);
        x.join(0);
        x.hear(3, 0);
        Due.is("another session", x.tally(0, 3), 2);
        x.tick(1);
        bytes("second accept", x, 4, Crypt.acceptFrame(Crypt.root(SEED, 0), 2, Crypt.address(0, 2)));
        Due.is("the others have none", x.tally(1, 3) + x.tally(2, 3), 0);
    }

    private static void hearJoinKeepsQueue() {
        WideNet x = joined(0);
        x.queue(0, 10, 1);
        x.queue(0, 11, 1);
        bringIn(x, 0);
        x.send(0, 2, 1, false, false);
        x.hear(0, 0);
        x.tick(1);
        x.reach(1);
        Due.is("the queue outlives a session", x.payload(0, false, 0), 10);
        WideNet y = joined(0);
        y.send(0, 1, 1, false, true);
        y.tick(3);
        y.join(0);
        y.hear(0, 0);
        y.hear(1, 0);
        y.tick(1);
        Due.is("only an accept is due", y.frames(), 3);
        Due.is("it is an accept", y.octet(2, 0), 32);
        y.reach(2);
        clear(y);
        y.send(0, 3, 1, true, false);
        y.hear(0, 0);
        y.tick(1);
        bytes("counts down begin anew", y, 1, Crypt.dataFrame(Crypt.keys(Crypt.root(SEED, 0), 2, 2), 96,
            Crypt.address(0, 2), 32, 0, new int[0], new byte[0]));
    }

    private static void hearSpoiledJoin() {
        for (int i = 0; i < 23; i++) {
            WideNet x = new WideNet(SEED);
            x.join(1);
            x.spoil(0, i, 1);
            Due.is("a spoiled join is heard", x.hear(0, 0), true);
            Due.is("byte " + i + ": no session", x.tally(0, 3) + x.tally(1, 3) + x.tally(2, 3), 0);
            x.spoil(0, i, 1);
            x.hear(0, 0);
            Due.is("byte " + i + ": a session", x.tally(1, 3), 1);
        }
        WideNet y = new WideNet(SEED);
        y.join(1);
        y.spoil(0, 9, 254);
        Due.is("no such device", y.hear(0, 0), true);
        y.tick(1);
        Due.is("no accept", y.frames(), 1);
        forgedJoin();
    }

    /** A right code does not help a JOIN whose bytes 0 are not all 0. */
    private static void forgedJoin() {
        for (int i = 1; i <= 16; i++) {
            byte[] root = Crypt.root(SEED, 1);
            byte[] frame = Crypt.joinFrame(root, 1, 1);
            if (i != 9) {
                frame[i] ^= 5;
            }
            byte[] code = Crypt.code(root, java.util.Arrays.copyOf(frame, 19));
            System.arraycopy(code, 0, frame, 19, 4);
            WideNet x = new WideNet(SEED);
            x.join(1);
            spoilInto(x, 0, frame);
            x.hear(0, 0);
            Due.is("a forged join, byte " + i, x.tally(1, 3), i == 9 ? 1 : 0);
        }
    }

    private static void spoilInto(WideNet x, int k, byte[] want) {
        for (int i = 0; i < want.length; i++) {
            x.spoil(k, i, x.octet(k, i) ^ (want[i] & 255));
        }
        bytes("spoiled into", x, k, want);
    }

    private static void hearTwoJoinsBeforeTick() {
        WideNet x = new WideNet(SEED);
        x.join(0);
        x.tick(3);
        x.join(0);
        x.join(1);
        x.hear(0, 0);
        x.hear(2, 0);
        x.hear(1, 0);
        Due.is("two sessions", x.tally(0, 3), 2);
        x.tick(1);
        Due.is("one accept each", x.frames(), 5);
        bytes("the later session", x, 3, Crypt.acceptFrame(Crypt.root(SEED, 0), 3, Crypt.address(0, 2)));
        bytes("the other device", x, 4, Crypt.acceptFrame(Crypt.root(SEED, 1), 2, Crypt.address(1, 1)));
    }

    private static void hearEachFrameOnce() {
        WideNet x = joined(0);
        x.send(0, 41, 1, false, false);
        for (int i = 0; i < 3; i++) {
            x.hear(0, i % 2);
            Due.is("received once", x.received(0, true), 1);
        }
        x.tick(3);
        x.send(0, 42, 1, false, false);
        x.hear(1, 0);
        Due.is("the next one", x.received(0, true), 2);
        x.hear(0, 0);
        Due.is("the one before is past", x.received(0, true), 2);
        Due.is("payload 0", x.payload(0, true, 0), 41);
        Due.is("payload 1", x.payload(0, true, 1), 42);
    }

    private static void hearSetOfGateways() {
        int[][] heard = {{0}, {1}, {0, 0}, {1, 1}, {0, 1}, {1, 0}, {1, 1, 0}};
        int[] want = {1, 1, 1, 1, 2, 2, 2};
        for (int i = 0; i < heard.length; i++) {
            WideNet x = joined(2);
            x.send(2, 1, 1, false, false);
            x.hear(0, 0);
            x.hear(0, 1);
            x.tick(3);
            x.lose(0);
            x.send(2, 2, 0, false, true);
            for (int g : heard[i]) {
                x.hear(0, g);
            }
            x.tick(1);
            bytes("gateways " + i, x, 1, downFrame(2, 3, 0, want[i], 0, 0));
            x.reach(1);
            Due.is("check " + i, x.tally(2, 2), want[i]);
        }
    }

    private static void hearConfirmedAgain() {
        WideNet x = joined(0);
        x.send(0, 1, 1, true, true);
        x.hear(0, 0);
        x.hear(0, 1);
        x.tick(1);
        bytes("it checks still", x, 1, downFrame(0, 35, 0, 2, 0, 0));
        x.lose(1);
        x.hear(0, 1);
        x.tick(1);
        bytes("acknowledged again, without a check", x, 1, downFrame(0, 32, 1, 0, 0, 0));
        x.tick(1);
        Due.is("nothing is due any more", x.frames(), 3);
        WideNet y = joined(0);
        y.send(0, 1, 1, false, true);
        y.hear(0, 0);
        y.tick(1);
        y.lose(1);
        y.hear(0, 1);
        y.tick(1);
        Due.is("an unconfirmed one makes nothing due again", y.frames(), 1);
    }

    private static void hearReplacesWhatIsDue() {
        // The first frame is heard late, in the same tick as the one behind it.
        WideNet y = joined(0);
        y.send(0, 1, 1, false, true);
        y.tick(3);
        y.send(0, 2, 1, false, false);
        y.hear(0, 0);
        y.hear(1, 1);
        y.tick(1);
        Due.is("what was due is due no more", y.frames(), 2);
        WideNet z = joined(0);
        z.send(0, 1, 1, false, true);
        z.tick(3);
        z.send(0, 2, 1, true, false);
        z.hear(0, 0);
        z.hear(1, 1);
        z.tick(1);
        bytes("only what the later one asks", z, 2, downFrame(0, 32, 0, 0, 0, 0));
    }

    private static void hearCountWindow() {
        int[] skips = {65534, 65535, 65536};
        int[] want = {2, 1, 1};
        for (int i = 0; i < skips.length; i++) {
            WideNet x = joined(1);
            x.send(1, 8, 1, false, false);
            x.hear(0, 0);
            x.tick(3);
            x.skip(1, skips[i]);
            x.send(1, 9, 1, false, false);
            x.hear(1, 0);
            Due.is("skipped " + skips[i], x.received(1, true), want[i]);
        }
        WideNet x = joined(1);
        x.skip(1, 65535);
        x.send(1, 8, 1, false, false);
        x.hear(0, 0);
        Due.is("the greatest first count", x.received(1, true), 1);
        x.tick(3);
        x.lose(0);
        x.send(1, 9, 1, false, false);
        x.hear(0, 0);
        Due.is("over two bytes", x.payload(1, true, 1), 9);
        x.tick(3);
        x.skip(1, 65534);
        x.send(1, 10, 1, false, false);
        x.hear(1, 0);
        Due.is("65535 more", x.payload(1, true, 2), 10);
        WideNet y = joined(1);
        y.skip(1, 65536);
        y.send(1, 8, 1, false, false);
        y.hear(0, 0);
        Due.is("too great for a first count", y.received(1, true), 0);
    }

    private static void hearSpoiledData() {
        WideNet x = joined(0);
        x.send(0, 0x0a0b0c, 3, true, true);
        for (int i = 0; i < x.length(0); i++) {
            for (int change : new int[] {1, 128}) {
                x.spoil(0, i, change);
                Due.is("a spoiled frame is heard", x.hear(0, 0), true);
                Due.is("byte " + i + " spoiled", x.received(0, true), 0);
                x.spoil(0, i, change);
            }
        }
        x.tick(1);
        Due.is("spoiled ones make nothing due", x.frames(), 1);
        x.hear(0, 0);
        Due.is("the whole one", x.received(0, true), 1);
    }

    /** The frame with byte i changed into value, and with a code that is right for that. */
    private static byte[] forged(byte[] frame, int direction, int i, int value) {
        byte[] before = java.util.Arrays.copyOf(frame, frame.length - 4);
        before[i] = (byte) value;
        byte[] code = Crypt.dataCode(firstKeys(0)[0], direction, Crypt.address(0, 1), 0, before);
        return new Crypt.Row().all(before).all(code).done();
    }

    private static void hearForgedData() {
        // Byte, its value, and whether it is an answerable frame then: head, address, and a control without options.
        int[][] cases = {{0, 128, 1}, {0, 96, 0}, {0, 32, 0}, {0, 0, 0}, {1, 2, 0}, {4, 39, 0}, {5, 0, 0}};
        for (int[] one : cases) {
            WideNet x = joined(0);
            x.send(0, 1, 0, true, true);
            spoilInto(x, 0, forged(upFrame(0, true, true, 0, 1, 0), 0, one[0], one[1]));
            x.hear(0, 0);
            x.tick(1);
            Due.is("a forged frame up, byte " + one[0] + " as " + one[1], x.frames(), 1 + one[2]);
        }
    }

    private static void hearForgedNonce() {
        byte[] root = Crypt.root(SEED, 0);
        WideNet x = new WideNet(SEED);
        x.join(0);
        spoilInto(x, 0, Crypt.joinFrame(root, 0, 0xabcd));
        x.hear(0, 0);
        x.tick(1);
        x.reach(1);
        x.lose(0);
        x.send(0, 7, 1, false, false);
        x.hear(0, 0);
        Due.is("the device has another nonce", x.received(0, true), 0);
        spoilInto(x, 0, Crypt.dataFrame(Crypt.keys(root, 1, 0xabcd), 64, Crypt.address(0, 1), 0, 0, new int[0],
            Crypt.lowest(7, 1)));
        x.hear(0, 0);
        Due.is("both bytes of a nonce make the keys", x.received(0, true), 1);
    }

    private static void sessionsBeginAnew() {
        WideNet x = joined(0);
        for (int session = 1; session <= 3; session++) {
            for (int count = 0; count < 3; count++) {
                x.queue(0, 10 * session + count, 1);
                Due.is("count up", x.send(0, 1, 1, true, false), count);
                x.hear(0, 0);
                x.tick(1);
                bytes("count down", x, 1, Crypt.dataFrame(Crypt.keys(Crypt.root(SEED, 0), session, session), 96,
                    Crypt.address(0, session), 32, count, new int[0], Crypt.lowest(10 * session + count, 1)));
                x.reach(1);
                x.lose(0);
                Due.is("acknowledged", x.tally(0, 0), 3 * (session - 1) + count + 1);
                Due.is("received", x.received(0, true), 3 * (session - 1) + count + 1);
            }
            bringIn(x, 0);
        }
    }

    private static void hearOldSession() {
        WideNet x = joined(0);
        x.send(0, 1, 1, true, false);
        x.tick(12);
        Due.is("out", x.state(0), 0);
        while (x.frames() > 1) {
            x.lose(1);
        }
        x.join(0);
        x.hear(1, 0);
        x.hear(0, 0);
        Due.is("the old session's frame", x.received(0, true), 0);
        x.tick(1);
        x.reach(2);
        Due.is("in again", x.state(0), 2);
        x.hear(0, 0);
        Due.is("still the old session's", x.received(0, true), 0);
        x.send(0, 2, 1, false, false);
        x.hear(2, 0);
        Due.is("the new session's", x.payload(0, true, 0), 2);
        WideNet y = new WideNet(SEED);
        y.join(0);
        spoilInto(y, 0, Crypt.joinFrame(Crypt.root(SEED, 0), 0, 300));
        y.hear(0, 0);
        y.tick(3);
        y.join(0);
        y.hear(y.frames() - 1, 0);
        Due.is("a nonce behind a greater one", y.tally(0, 3), 1);
    }

    // Promise 8

    private static void reachAnswers() {
        WideNet x = new WideNet(SEED);
        Due.is("reach nothing", x.reach(0), false);
        x.join(0);
        Due.is("reach of a frame up", x.reach(0), false);
        Due.is("it stays", x.frames(), 1);
        x.hear(0, 0);
        x.tick(1);
        for (int k : new int[] {-1, 2, 12, Integer.MIN_VALUE, Integer.MAX_VALUE}) {
            Due.is("reach of frame " + k, x.reach(k), false);
        }
        x.join(2);
        Due.is("reach", x.reach(1), true);
        Due.is("it leaves", x.frames(), 2);
        Due.is("the others stay in order", x.octet(0, 9) * 10 + x.octet(1, 9), 2);
    }

    private static void reachAccept() {
        WideNet x = new WideNet(SEED);
        x.join(1);
        x.hear(0, 0);
        x.tick(1);
        for (int i = 0; i < 17; i++) {
            x.replay(0);
            x.spoil(2, i, 64);
            x.reach(2);
            Due.is("a spoiled accept, byte " + i, x.state(1), 11);
        }
        x.replay(0);
        spoilInto(x, 2, otherHead());
        x.reach(2);
        Due.is("a right code for another head", x.state(1), 11);
        x.reach(1);
        Due.is("in, and waits no more", x.state(1), 2);
        x.lose(0);
        x.send(1, 3, 1, false, false);
        bytes("with the session's keys", x, 0, upFrame(1, false, false, 0, 3, 1));
    }

    /** An ACCEPT with the head 33, and the code that would be right for that. */
    private static byte[] otherHead() {
        byte[] root = Crypt.root(SEED, 1);
        byte[] twelve = new Crypt.Row().number(1, 3).add(19, 0, 0).number(Crypt.address(1, 1), 4).add(0, 1).done();
        byte[] code = Crypt.code(root, new Crypt.Row().add(33).all(twelve).done());
        byte[] sixteen = new Crypt.Row().all(twelve).all(code).done();
        return new Crypt.Row().add(33).all(Crypt.inverse(root, sixteen)).done();
    }

    private static void reachAcceptWindow() {
        for (int late = 0; late <= 4; late++) {
            WideNet x = new WideNet(SEED);
            x.join(0);
            x.hear(0, 0);
            x.tick(1);
            x.tick(2);
            x.lose(0);
            Due.is("out", x.state(0), 0);
            x.join(0);
            if (late > 0) {
                x.tick(late);
            }
            x.reach(0);
            int want = late == 0 ? 11 : late <= 2 ? 2 : 0;
            Due.is("accept at T + " + late, x.state(0), want);
        }
    }

    private static void reachOldAccept() {
        WideNet x = joined(0);
        x.join(0);
        x.tick(1);
        x.replay(1);
        Due.is("the accept of before", x.octet(1, 0), 32);
        x.reach(1);
        Due.is("its serial is not greater", x.state(0), 11);
        WideNet y = new WideNet(SEED);
        y.join(0);
        y.hear(0, 0);
        y.tick(3);
        y.lose(0);
        y.join(0);
        y.tick(1);
        y.reach(0);
        Due.is("an accept that it never took", y.state(0), 2);
        y.lose(0);
        y.send(0, 7, 1, false, false);
        bytes("its own nonce makes the keys", y, 0, Crypt.dataFrame(Crypt.keys(Crypt.root(SEED, 0), 1, 2), 64,
            Crypt.address(0, 1), 0, 0, new int[0], Crypt.lowest(7, 1)));
        y.hear(0, 0);
        Due.is("the server has other keys", y.received(0, true), 0);
        WideNet z = joined(0);
        z.send(0, 1, 1, true, false);
        z.tick(1);
        z.replay(1);
        z.reach(1);
        Due.is("an accept for one that is in", z.state(0), 12);
    }

    private static void reachData() {
        WideNet x = joined(0);
        x.queue(0, 50, 1);
        x.queue(0, 51, 1);
        x.send(0, 1, 1, true, true);
        x.hear(0, 0);
        x.tick(1);
        x.replay(0);
        x.reach(1);
        Due.is("received", x.received(0, false), 1);
        Due.is("acknowledged", x.tally(0, 0), 1);
        Due.is("check", x.tally(0, 2), 1);
        x.send(0, 2, 1, true, false);
        x.tick(1);
        x.reach(1);
        Due.is("a count that is not greater", x.received(0, false), 1);
        Due.is("not acknowledged by it", x.state(0), 12);
        x.hear(1, 0);
        x.tick(1);
        x.reach(2);
        Due.is("the next one", x.payload(0, false, 1), 51);
        Due.is("acknowledged by it", x.tally(0, 0), 2);
        Due.is("the check stays", x.tally(0, 2), 1);
        x.replay(0);
        x.reach(x.frames() - 1);
        Due.is("it does not wait", x.received(0, false), 2);
        // A frame down that was lost leaves a gap in the counts.
        WideNet y = joined(0);
        for (int i = 0; i < 3; i++) {
            y.queue(0, 60 + i, 1);
            y.send(0, 1, 1, false, false);
            y.hear(0, 0);
            y.tick(1);
            if (i == 1) {
                y.lose(1);
                y.tick(2);
            } else {
                y.reach(1);
            }
            y.lose(0);
        }
        Due.is("over a gap", y.received(0, false), 2);
        Due.is("behind the gap", y.payload(0, false, 1), 62);
    }

    private static void reachDataWindow() {
        for (int late = 0; late <= 3; late++) {
            WideNet x = joined(0);
            x.queue(0, 5, 1);
            x.send(0, 1, 1, false, true);
            x.hear(0, 0);
            x.tick(3);
            x.lose(0);
            Due.is("waits no more", x.state(0), 2);
            x.send(0, 2, 1, false, false);
            if (late > 0) {
                x.tick(late);
            }
            x.reach(0);
            Due.is("data at T + " + late, x.received(0, false), late == 1 || late == 2 ? 1 : 0);
            Due.is("waits at T + " + late, x.state(0), late == 0 ? 12 : 2);
        }
        WideNet x = joined(0);
        x.send(0, 1, 1, true, false);
        x.tick(2);
        x.hear(0, 0);
        x.tick(1);
        Due.is("answer and the frame again", x.frames(), 3);
        x.replay(1);
        x.reach(1);
        Due.is("sent again just then", x.tally(0, 0), 0);
        x.tick(1);
        x.reach(x.frames() - 1);
        Due.is("a tick later", x.tally(0, 0), 1);
        x.tick(9);
        Due.is("not again when it is acknowledged", x.tally(0, 1), 0);
        Due.is("no frame more", x.frames(), 2);
    }

    private static void reachConfirmedNeedsAcknowledgement() {
        WideNet x = joined(0);
        x.queue(0, 5, 1);
        x.send(0, 1, 1, false, true);
        x.hear(0, 1);
        x.tick(3);
        x.lose(0);
        x.send(0, 2, 1, true, false);
        x.tick(1);
        x.reach(0);
        Due.is("its payload is received", x.payload(0, false, 0), 5);
        Due.is("its check is taken", x.tally(0, 2), 1);
        Due.is("it waits on", x.state(0), 12);
        Due.is("not acknowledged", x.tally(0, 0), 0);
        x.hear(0, 0);
        x.tick(1);
        x.reach(1);
        Due.is("acknowledged", x.tally(0, 0), 1);
        Due.is("waits no more", x.state(0), 2);
    }

    private static void reachUnconfirmedIsNeverAcknowledged() {
        WideNet x = joined(0);
        x.send(0, 1, 1, true, false);
        x.hear(0, 0);
        x.tick(1);
        x.reach(1);
        Due.is("acknowledged", x.tally(0, 0), 1);
        x.send(0, 2, 1, false, false);
        x.hear(0, 0);
        x.tick(1);
        Due.is("control acknowledges", x.octet(2, 5), 32);
        x.reach(2);
        Due.is("waits no more", x.state(0), 2);
        Due.is("not one more", x.tally(0, 0), 1);
    }

    private static void reachSpoiledData() {
        WideNet x = joined(0);
        x.queue(0, 0x0102, 2);
        x.send(0, 1, 1, true, true);
        x.hear(0, 0);
        x.tick(1);
        for (int i = 0; i < x.length(1); i++) {
            x.replay(0);
            x.spoil(2, i, 3);
            x.reach(2);
            Due.is("byte " + i + " spoiled", x.state(0), 12);
            Due.is("byte " + i + ": nothing received", x.received(0, false), 0);
        }
        Due.is("no check", x.tally(0, 2), 0);
        x.reach(1);
        Due.is("the whole one", x.payload(0, false, 0), 0x0102);
    }

    private static void reachForgedData() {
        // Byte, its value, and whether the frame is taken then.
        int[][] cases = {{0, 96, 1}, {0, 64, 0}, {0, 128, 0}, {0, 32, 0}, {1, 2, 0}, {2, 2, 0}, {5, 2, 0}};
        for (int[] one : cases) {
            WideNet x = joined(0);
            x.send(0, 1, 1, false, true);
            x.hear(0, 0);
            x.tick(1);
            spoilInto(x, 1, forged(downFrame(0, 3, 0, 1, 0, 0), 1, one[0], one[1]));
            x.reach(1);
            Due.is("a forged frame down, byte " + one[0] + " as " + one[1], x.state(0), one[2] == 1 ? 2 : 12);
        }
    }

    // Promise 9

    private static void loseFrames() {
        WideNet x = new WideNet(SEED);
        Due.is("lose nothing", x.lose(0), false);
        for (int d = 0; d < 3; d++) {
            x.join(d);
        }
        for (int k : new int[] {-1, 3, 12, Integer.MIN_VALUE, Integer.MAX_VALUE}) {
            Due.is("lose " + k, x.lose(k), false);
        }
        Due.is("refused: all stay", x.frames(), 3);
        Due.is("lose", x.lose(1), true);
        Due.is("two stay", x.frames(), 2);
        Due.is("in order", x.octet(0, 9) * 10 + x.octet(1, 9), 2);
        Due.is("it is gone", x.length(2), -1);
        Due.is("the device waits on", x.state(1), 11);
        Due.is("lose the last", x.lose(1), true);
        Due.is("lose the first", x.lose(0), true);
        Due.is("none left", x.frames(), 0);
    }

    // Promise 10

    private static void replayFrames() {
        WideNet x = new WideNet(SEED);
        Due.is("replay nothing", x.replay(0), false);
        for (int nonce = 1; nonce <= 10; nonce++) {
            x.join(0);
            Due.is("as many as were sent", x.replay(Math.min(nonce, 8)), false);
            x.tick(3);
            x.lose(0);
        }
        for (int j : new int[] {-1, 8, 9, Integer.MIN_VALUE, Integer.MAX_VALUE}) {
            Due.is("replay " + j, x.replay(j), false);
        }
        Due.is("refused: nothing", x.frames(), 0);
        for (int j = 0; j < 8; j++) {
            Due.is("replay " + j, x.replay(j), true);
            Due.is("it is last", x.frames(), j + 1);
            Due.is("goal", x.goal(j), 3);
            bytes("replay " + j, x, j, Crypt.joinFrame(Crypt.root(SEED, 0), 0, 10 - j));
        }
        for (int i = 8; i < 12; i++) {
            Due.is("up to twelve", x.replay(7), true);
        }
        Due.is("not a thirteenth", x.replay(0), false);
        Due.is("twelve", x.frames(), 12);
        Due.is("copies are not remembered", x.lose(0) && x.replay(0), true);
        bytes("still the latest", x, 11, Crypt.joinFrame(Crypt.root(SEED, 0), 0, 10));
    }

    private static void replayRemembersWhatWasSent() {
        WideNet x = new WideNet(SEED);
        x.join(0);
        x.spoil(0, 5, 200);
        x.hear(0, 0);
        x.replay(0);
        bytes("as it was sent", x, 1, Crypt.joinFrame(Crypt.root(SEED, 0), 0, 1));
        x.spoil(1, 6, 1);
        x.lose(1);
        x.replay(0);
        bytes("a copy's change is not remembered", x, 1, Crypt.joinFrame(Crypt.root(SEED, 0), 0, 1));
        x.hear(1, 0);
        x.tick(1);
        x.replay(0);
        Due.is("frames down too", x.goal(3), 0);
        bytes("frames down too", x, 3, Crypt.acceptFrame(Crypt.root(SEED, 0), 1, Crypt.address(0, 1)));
        x.reach(3);
        Due.is("and they reach", x.state(0), 2);
        WideNet y = joined(0);
        y.send(0, 1, 1, true, false);
        y.tick(3);
        clear(y);
        y.replay(1);
        bytes("each sending is remembered", y, 0, upFrame(0, true, false, 0, 1, 1));
        y.replay(3);
        bytes("behind them the join", y, 1, Crypt.joinFrame(Crypt.root(SEED, 0), 0, 1));
        Due.is("four were sent", y.replay(4), false);
    }

    // Promise 11

    private static void spoilFrames() {
        WideNet x = new WideNet(SEED);
        Due.is("spoil nothing", x.spoil(0, 0, 1), false);
        x.join(0);
        x.join(1);
        for (int wrong : new int[] {0, -1, 256, Integer.MIN_VALUE, Integer.MAX_VALUE}) {
            Due.is("spoil with " + wrong, x.spoil(0, 0, wrong), false);
        }
        for (int i : new int[] {-1, 23, 24, Integer.MIN_VALUE, Integer.MAX_VALUE}) {
            Due.is("spoil byte " + i, x.spoil(0, i, 1), false);
        }
        for (int k : new int[] {-1, 2, 12, Integer.MIN_VALUE, Integer.MAX_VALUE}) {
            Due.is("spoil frame " + k, x.spoil(k, 0, 1), false);
        }
        bytes("refused: unchanged", x, 0, Crypt.joinFrame(Crypt.root(SEED, 0), 0, 1));
        int before = x.octet(0, 22);
        Due.is("spoil the last byte", x.spoil(0, 22, 255), true);
        Due.is("changed", x.octet(0, 22), before ^ 255);
        Due.is("spoil the first byte", x.spoil(0, 0, 1), true);
        Due.is("changed", x.octet(0, 0), 1);
        Due.is("others are not", x.octet(0, 1), 0);
        bytes("the other frame is not", x, 1, Crypt.joinFrame(Crypt.root(SEED, 1), 1, 1));
        x.spoil(0, 0, 1);
        x.spoil(0, 22, 255);
        bytes("changed back", x, 0, Crypt.joinFrame(Crypt.root(SEED, 0), 0, 1));
    }

    // Promises 12 to 15

    private static void readFrames() {
        WideNet x = joined(0);
        Due.is("frames", x.frames(), 0);
        x.send(0, 1, 8, true, true);
        x.queue(0, 1, 8);
        x.hear(0, 0);
        x.tick(1);
        x.join(1);
        Due.is("frames", x.frames(), 3);
        int[] lengths = {22, 24, 23};
        int[] goals = {3, 0, 3};
        int[] heads = {128, 96, 0};
        for (int k = 0; k < 3; k++) {
            Due.is("length", x.length(k), lengths[k]);
            Due.is("goal", x.goal(k), goals[k]);
            Due.is("first octet", x.octet(k, 0), heads[k]);
            Due.is("last octet is there", x.octet(k, lengths[k] - 1) >= 0, true);
            for (int i : new int[] {-1, lengths[k], 100, Integer.MIN_VALUE, Integer.MAX_VALUE}) {
                Due.is("octet " + i, x.octet(k, i), -1);
            }
        }
        for (int k : new int[] {-1, 3, 12, Integer.MIN_VALUE, Integer.MAX_VALUE}) {
            Due.is("length of " + k, x.length(k), -1);
            Due.is("goal of " + k, x.goal(k), -1);
            Due.is("octet of " + k, x.octet(k, 0), -1);
        }
        WideNet y = new WideNet(SEED);
        y.join(2);
        y.hear(0, 0);
        y.tick(1);
        Due.is("goal 2", y.goal(1), 2);
        Due.is("an accept's length", y.length(1), 17);
        for (int i = 0; i < 20; i++) {
            y.replay(0);
            Due.is("frames", y.frames(), Math.min(12, 3 + i));
        }
    }

    // Promise 16

    private static void stateTells() {
        WideNet x = new WideNet(SEED);
        for (int d : NO_DEVICES) {
            Due.is("state of " + d, x.state(d), -1);
        }
        Due.is("out", x.state(1), 0);
        x.join(1);
        Due.is("joining", x.state(1), 11);
        Due.is("another is out", x.state(0), 0);
        x.hear(0, 0);
        x.tick(1);
        Due.is("still joining", x.state(1), 11);
        x.reach(1);
        Due.is("in", x.state(1), 2);
        x.send(1, 1, 1, false, false);
        Due.is("in and waiting", x.state(1), 12);
        x.tick(3);
        Due.is("in", x.state(1), 2);
    }

    // Promises 17 and 18

    private static void receivedAndPayload() {
        WideNet x = joined(1);
        for (int i = 0; i < 7; i++) {
            x.queue(1, -10 - i, 8);
            x.send(1, -100 - i, 8, false, false);
            x.hear(0, 0);
            x.tick(1);
            x.reach(1);
            x.lose(0);
            Due.is("received up", x.received(1, true), i + 1);
            Due.is("received down", x.received(1, false), i + 1);
            for (int old = 0; old <= i; old++) {
                Due.is("payload up " + old, x.payload(1, true, old), old > i - 4 ? -100 - old : -1);
                Due.is("payload down " + old, x.payload(1, false, old), old > i - 4 ? -10 - old : -1);
            }
            Due.is("none yet", x.payload(1, true, i + 1), -1);
        }
        bringIn(x, 1);
        Due.is("in all sessions up", x.received(1, true), 7);
        Due.is("in all sessions down", x.received(1, false), 7);
        Due.is("kept over sessions", x.payload(1, true, 6), -106);
        for (int i : new int[] {-1, 7, Integer.MIN_VALUE, Integer.MAX_VALUE}) {
            Due.is("payload " + i, x.payload(1, true, i), -1);
            Due.is("payload " + i, x.payload(1, false, i), -1);
        }
        for (int d : NO_DEVICES) {
            Due.is("received of " + d, x.received(d, true), -1);
            Due.is("received of " + d, x.received(d, false), -1);
            Due.is("payload of " + d, x.payload(d, true, 0), -1);
            Due.is("payload of " + d, x.payload(d, false, 0), -1);
        }
        Due.is("another received nothing", x.received(0, true) + x.received(2, false), 0);
        x.send(1, 0, 0, true, true);
        x.hear(0, 0);
        x.tick(1);
        x.reach(1);
        Due.is("no payload up", x.received(1, true), 7);
        Due.is("no payload down", x.received(1, false), 7);
    }

    // Promise 19

    private static void tallies() {
        WideNet x = joined(1);
        for (int i = 1; i <= 3; i++) {
            x.send(1, 1, 1, true, i > 1);
            x.hear(0, 0);
            if (i == 3) {
                x.hear(0, 1);
            }
            x.tick(1);
            x.reach(1);
            x.lose(0);
            Due.is("acknowledged", x.tally(1, 0), i);
            Due.is("check", x.tally(1, 2), i - 1);
        }
        for (int i = 1; i <= 3; i++) {
            x.send(1, 1, 1, true, false);
            x.tick(12);
            clear(x);
            Due.is("failed", x.tally(1, 1), i);
            bringIn(x, 1);
            Due.is("sessions", x.tally(1, 3), i + 1);
        }
        Due.is("acknowledged stays", x.tally(1, 0), 3);
        Due.is("check stays", x.tally(1, 2), 2);
        for (int what : new int[] {-1, 4, 5, Integer.MIN_VALUE, Integer.MAX_VALUE}) {
            Due.is("tally " + what, x.tally(1, what), -1);
        }
        for (int what = 0; what < 4; what++) {
            for (int d : NO_DEVICES) {
                Due.is("tally of " + d, x.tally(d, what), -1);
            }
            Due.is("another's tally", x.tally(0, what), 0);
        }
    }
}
