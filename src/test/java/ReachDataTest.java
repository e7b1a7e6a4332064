/** Promise 8: what a device does with DATA that reaches it. */
public final class ReachDataTest {
    private ReachDataTest() {
    }

    public static void main(String[] args) {
        window();
        windowOfSendingsAgain();
        notWaiting();
        countMustBeGreater();
        countOverAGap();
        firstCounts();
        countWindow();
        countPassesTwoBytes();
        countOfANewSession();
        payloadOrNone();
        unconfirmedWaitsNoMore();
        confirmedNeedsTheBit();
        unconfirmedIsNeverAcknowledged();
        acknowledgedOnce();
        spoiledData();
        rightLengths();
        heads();
        addresses();
        checks();
        optionsThatAreNoCheck();
        Due.end();
    }

    /** Device 0 sent a confirmed frame that nobody hears, a tick ago; frame 0 is one down with one byte. */
    private static Net waiting() {
        Net x = Scene.joined(0);
        x.queue(0, 0, 1);
        Scene.ask(x, 0, false, false);
        x.tick(2);
        x.send(0, 0, 0, true, false);
        x.lose(1);
        x.tick(1);
        Due.is("device 0 waits", x.state(0), 12);
        return x;
    }

    /** A frame down with this count, that acknowledges nothing, with one byte: it reaches device 0. */
    private static void reachWith(Net x, int count, int payload) {
        x.replay(1);
        Scene.spoilInto(x, x.frames() - 1, Scene.downFrame(0, 0, count, 0, payload, 1));
        x.reach(x.frames() - 1);
    }

    private static void window() {
        Due.by("Terms: A frame down that reaches it while it waits, at the time T + 1 or T + 2 (DATA)");
        int[] received = {0, 1, 1, 0, 0};
        int[] state = {12, 2, 2, 2, 2};
        for (int since = 0; since <= 4; since++) {
            Net x = Scene.joined(0);
            x.queue(0, 5, 1);
            Scene.ask(x, 0, false, true);
            x.tick(2);
            x.send(0, 2, 1, false, false);
            if (since > 0) {
                x.tick(since);
            }
            Due.is("reach", x.reach(0), true);
            Due.is("at T + " + since, x.received(0, false), received[since]);
            Due.is("its check", x.tally(0, 2), received[since]);
            Due.is("state at T + " + since, x.state(0), state[since]);
        }
    }

    private static void windowOfSendingsAgain() {
        Due.by("Terms: T is the time of the latest sending");
        for (int time = 1; time <= 12; time++) {
            Net x = Scene.joined(0);
            x.send(0, 1, 1, true, false);
            x.hear(0, 0);
            x.tick(1);
            if (time > 1) {
                x.tick(time - 1);
            }
            x.reach(1);
            boolean taken = time % 3 != 0;
            Due.is("acknowledged " + time + " ticks behind the first", x.tally(0, 0), taken ? 1 : 0);
            Due.is("state", x.state(0), taken ? 2 : time == 12 ? 0 : 12);
        }
    }

    private static void notWaiting() {
        Due.by("Terms: A frame down that reaches it while it waits: else it does nothing, and is not the greatest");
        Net x = Scene.joined(0);
        x.queue(0, 5, 1);
        Scene.ask(x, 0, false, true);
        x.tick(2);
        Due.is("state", x.state(0), 2);
        Due.is("reach", x.reach(0), true);
        Due.is("received", x.received(0, false), 0);
        Due.is("check", x.tally(0, 2), 0);
        x.send(0, 1, 1, false, false);
        x.replay(1);
        x.reach(1);
        Due.is("at T", x.received(0, false), 0);
        x.tick(1);
        x.replay(1);
        x.reach(1);
        Due.is("at T + 1", x.payload(0, false, 0), 5);
    }

    private static void countMustBeGreater() {
        Due.by("Terms: its COUNT, which must be greater than the greatest one");
        Net x = Scene.joined(0);
        x.queue(0, 50, 1);
        x.queue(0, 51, 1);
        x.send(0, 1, 1, true, true);
        x.hear(0, 0);
        x.tick(1);
        x.replay(0);
        x.reach(1);
        Due.is("received", x.received(0, false), 1);
        x.send(0, 2, 1, true, false);
        x.tick(1);
        x.reach(1);
        Due.is("the same again", x.received(0, false), 1);
        Due.is("it acknowledges nothing", x.state(0), 12);
        Due.is("acknowledged", x.tally(0, 0), 1);
        x.hear(1, 0);
        x.tick(1);
        x.reach(2);
        Due.is("the next one", x.payload(0, false, 1), 51);
        Due.is("acknowledged", x.tally(0, 0), 2);
        Due.is("the check is the one of before", x.tally(0, 2), 1);
    }

    private static void countOverAGap() {
        Due.by("Terms: Then that is the greatest; frames before it are past");
        Net x = Scene.joined(0);
        for (int i = 0; i < 3; i++) {
            x.queue(0, 60 + i, 1);
            Scene.ask(x, 0, false, false);
            if (i != 1) {
                x.reach(x.frames() - 1);
            }
            x.tick(2);
        }
        Due.is("over a gap", x.received(0, false), 2);
        Due.is("behind the gap", x.payload(0, false, 1), 62);
        x.send(0, 1, 1, true, false);
        x.tick(1);
        x.reach(0);
        Due.is("the one of the gap comes late", x.received(0, false), 2);
    }

    private static void firstCounts() {
        Due.by("Terms: the greatest count of a frame down (none at first): the least number above it");
        int[] counts = {0, 1, 65534, 65535, 65536, 65537};
        boolean[] taken = {true, true, true, true, false, false};
        for (int i = 0; i < counts.length; i++) {
            Net x = waiting();
            reachWith(x, counts[i], 9);
            Due.is("a first count of " + counts[i], x.received(0, false), taken[i] ? 1 : 0);
        }
    }

    private static void countWindow() {
        Due.by("Terms: the least number above it that ends with the frame's two bytes");
        int[] more = {-1, 0, 1, 65535, 65536, 65537};
        boolean[] taken = {false, false, true, true, true, false};
        for (int first : new int[] {5, 65534, 65535}) {
            for (int i = 0; i < more.length; i++) {
                Net x = waiting();
                reachWith(x, first, 8);
                Due.is("the first", x.payload(0, false, 0), 8);
                reachWith(x, first + more[i], 9);
                Due.is("behind " + first + ", " + more[i] + " more", x.received(0, false), taken[i] ? 2 : 1);
                Due.is("the second", x.payload(0, false, 1), taken[i] ? 9 : -1);
            }
        }
    }

    private static void countPassesTwoBytes() {
        Due.by("Terms: a count that passes 65535 and goes on (down)");
        Net x = waiting();
        int[] counts = {65534, 65535, 65536, 65537, 131072, 131073};
        for (int i = 0; i < counts.length; i++) {
            reachWith(x, counts[i], i);
            Due.is("count " + counts[i], x.received(0, false), i + 1);
            Due.is("payload", x.payload(0, false, i), i);
        }
        reachWith(x, 131072, 7);
        Due.is("one of before", x.received(0, false), counts.length);
    }

    private static void countOfANewSession() {
        Due.by("Terms: IN, it has the greatest count of a frame down (none at first), in each session");
        Net x = Scene.joined(0);
        for (int i = 0; i < 3; i++) {
            Scene.ask(x, 0, true, false);
            x.reach(0);
        }
        Scene.bringIn(x, 0);
        Scene.ask(x, 0, true, false);
        x.reach(0);
        Due.is("count 0 is taken again", x.tally(0, 0), 4);
    }

    private static void payloadOrNone() {
        Due.by("Terms: a payload is received, when there is one (down)");
        Net x = Scene.joined(0);
        Scene.ask(x, 0, true, true);
        x.reach(0);
        Due.is("none", x.received(0, false), 0);
        Due.is("it was taken", x.tally(0, 0), 1);
        for (int n = 1; n <= 8; n++) {
            x.queue(0, -1, n);
            Scene.ask(x, 0, n % 2 == 0, n % 3 == 0);
            x.reach(0);
            Due.is("received", x.received(0, false), n);
            Due.is("payload of " + n, x.payload(0, false, n - 1), n == 8 ? -1 : (1L << (8 * n)) - 1);
        }
    }

    private static void unconfirmedWaitsNoMore() {
        Due.by("Terms: it waits no more, whatever control is, when the frame that it sent was not confirmed");
        for (int control : new int[] {0, 16, 32, 48, 64, 128, 240}) {
            Net x = Scene.joined(0);
            Scene.ask(x, 0, true, false);
            x.tick(20);
            Scene.clear(x);
            Scene.bringIn(x, 0);
            x.queue(0, 4, 1);
            Scene.ask(x, 0, false, false);
            byte[] want = Crypt.dataFrame(Crypt.keys(Crypt.root(Scene.SEED, 0), 2, 2), 96, Crypt.address(0, 2),
                control, 0, new int[0], Crypt.lowest(6, 1));
            Scene.spoilInto(x, 0, want);
            Due.is("it waits", x.state(0), 12);
            x.reach(0);
            Due.is("control " + control, x.state(0), 2);
            Due.is("received", x.payload(0, false, 0), 6);
        }
    }

    private static void confirmedNeedsTheBit() {
        Due.by("Terms: when that was confirmed, only if control has the bit 32: that frame is ACKNOWLEDGED then");
        for (int control = 0; control < 256; control += 16) {
            Net x = waiting();
            Scene.spoilInto(x, 0, Scene.downFrame(0, control, 0, 0, 6, 1));
            x.reach(0);
            boolean acknowledges = control / 32 % 2 == 1;
            Due.is("control " + control + ": state", x.state(0), acknowledges ? 2 : 12);
            Due.is("control " + control + ": acknowledged", x.tally(0, 0), acknowledges ? 1 : 0);
            Due.is("its payload is received", x.payload(0, false, 0), 6);
            x.tick(2);
            Due.is("sent again, if not acknowledged", x.frames(), acknowledges ? 0 : 1);
        }
    }

    private static void unconfirmedIsNeverAcknowledged() {
        Due.by("Terms: only a confirmed frame is ACKNOWLEDGED");
        Net x = Scene.joined(0);
        x.send(0, 1, 1, true, false);
        x.hear(0, 0);
        x.tick(1);
        x.reach(1);
        Due.is("acknowledged", x.tally(0, 0), 1);
        x.send(0, 2, 1, false, false);
        x.hear(0, 0);
        x.tick(1);
        Due.is("control", x.octet(2, 5), 32);
        x.reach(2);
        Due.is("it waits no more", x.state(0), 2);
        Due.is("acknowledged", x.tally(0, 0), 1);
    }

    private static void acknowledgedOnce() {
        Due.by("Terms: a frame is ACKNOWLEDGED once, as it waits no more then");
        Net x = Scene.joined(0);
        x.send(0, 1, 1, true, false);
        x.hear(0, 0);
        x.tick(1);
        x.hear(0, 1);
        x.tick(1);
        Due.is("two ANSWERs", x.frames(), 3);
        x.reach(1);
        x.reach(1);
        Due.is("acknowledged", x.tally(0, 0), 1);
        x.send(0, 2, 1, true, false);
        x.tick(1);
        x.replay(1);
        x.reach(2);
        Due.is("the second was not taken before, and is now", x.tally(0, 0), 2);
    }

    private static void spoiledData() {
        Due.by("Terms: a right code (down)");
        for (int i = 0; i < 18; i++) {
            Net x = Scene.joined(0);
            x.queue(0, 0x0102, 2);
            Scene.ask(x, 0, true, true);
            Due.is("length", x.length(0), 18);
            for (int bit = 0; bit < 8; bit++) {
                x.replay(0);
                x.spoil(1, i, 1 << bit);
                Due.is("reach", x.reach(1), true);
                Due.is("byte " + i + ", bit " + bit, x.state(0), 12);
            }
            Due.is("nothing received", x.received(0, false), 0);
            Due.is("no check", x.tally(0, 2), 0);
            x.reach(0);
            Due.is("the whole one, behind byte " + i, x.payload(0, false, 0), 0x0102);
        }
    }

    /** Frames of each length that the server can send, whose control tells up to three options, with right codes. */
    private static void rightLengths() {
        Due.by("Terms: RIGHT when it is 12 bytes more than there are options, and none or 2 to 9 more (down)");
        for (int length = 14; length <= 24; length++) {
            for (int options = 0; options <= 3; options++) {
                int more = length - 12 - options;
                boolean right = more == 0 || more >= 2 && more <= 9;
                Net x = Scene.joined(0);
                boolean check = length > 21;
                x.queue(0, 0, length - 13 - (check ? 3 : 0));
                Scene.ask(x, 0, true, check);
                byte[] before = new byte[length - 4];
                System.arraycopy(Scene.downFrame(0, 32, 0, 0, 0, 0), 0, before, 0, 8);
                before[5] = (byte) (32 + options);
                for (int i = 8; i < before.length; i++) {
                    before[i] = 1;
                }
                Scene.spoilInto(x, 0, Scene.withCode(before, 1, 0));
                Due.is("reach", x.reach(0), true);
                String what = "length " + length + " with " + options + " options";
                Due.is(what, x.tally(0, 0), right ? 1 : 0);
                Due.is(what + ": received", x.received(0, false), right && more > 0 ? 1 : 0);
            }
        }
        for (int options = 0; options <= 3; options++) {
            Net x = Scene.joined(0);
            Scene.ask(x, 0, true, false);
            Scene.spoilInto(x, 0, Scene.forged(Scene.downFrame(0, 32, 0, 0, 0, 0), 1, 0, 5, 32 + options));
            x.reach(0);
            Due.is("length 12 with " + options + " options", x.tally(0, 0), options == 0 ? 1 : 0);
        }
    }

    private static void heads() {
        Due.by("Terms: IN: a DATA frame with the head 96");
        for (int head = 0; head < 256; head++) {
            Net x = Scene.joined(0);
            Scene.ask(x, 0, true, false);
            Scene.spoilInto(x, 0, Scene.forged(Scene.downFrame(0, 32, 0, 0, 0, 0), 1, 0, 0, head));
            x.reach(0);
            Due.is("head " + head, x.state(0), head == 96 ? 2 : 12);
        }
    }

    private static void addresses() {
        Due.by("Terms: IN: a DATA frame with the session's address");
        byte[] frame = Scene.downFrame(0, 32, 0, 0, 0, 0);
        for (int i = 1; i <= 4; i++) {
            for (int change : new int[] {1, 2, 3, 128, 255}) {
                Net x = Scene.joined(0);
                Scene.ask(x, 0, true, false);
                Scene.spoilInto(x, 0, Scene.forged(frame, 1, 0, i, (frame[i] & 255) ^ change));
                x.reach(0);
                Due.is("address byte " + i, x.state(0), 12);
            }
        }
    }

    private static void checks() {
        Due.by("Terms: options 2, m, g are a CHECK of g gateways");
        int[][] options = {{2, 10, 1}, {2, 10, 2}, {2, 0, 3}, {2, 255, 0}, {2, 10, 255}};
        Net x = Scene.joined(0);
        for (int i = 0; i < options.length; i++) {
            Scene.ask(x, 0, false, true);
            Scene.spoilInto(x, 0, Crypt.dataFrame(Scene.firstKeys(0), 96, Crypt.address(0, 1), 3, i, options[i],
                new byte[0]));
            x.reach(0);
            Due.is("its latest check", x.tally(0, 2), options[i][2]);
        }
    }

    private static void optionsThatAreNoCheck() {
        Due.by("Terms: options 2, m, g: no others are a CHECK");
        int[][] options = {{}, {2}, {2, 10}, {3, 10, 7}, {0, 2, 7}, {130, 10, 7}};
        for (int[] some : options) {
            Net x = Scene.joined(0);
            Scene.ask(x, 0, false, true);
            x.reach(0);
            Due.is("a check", x.tally(0, 2), 1);
            x.queue(0, 0, 4);
            Scene.ask(x, 0, true, true);
            byte[] payload = Crypt.lowest(0x55, 7 - some.length);
            Scene.spoilInto(x, 0, Crypt.dataFrame(Scene.firstKeys(0), 96, Crypt.address(0, 1), 32 + some.length, 1,
                some, payload));
            x.reach(0);
            Due.is("the frame is taken", x.tally(0, 0), 1);
            Due.is("its payload", x.payload(0, false, 0), 0x55);
            Due.is("the check of before, behind " + some.length + " options", x.tally(0, 2), 1);
        }
    }
}
