/** Promise 7: what the server does with DATA that a gateway hears. */
public final class HearDataTest {
    private HearDataTest() {
    }

    public static void main(String[] args) {
        eachFrameOnce();
        countBehindIsPast();
        firstCounts();
        countWindow();
        countPassesTwoBytes();
        equalCountPastTwoBytes();
        setOfGateways();
        setBeginsAnew();
        confirmedAgain();
        confirmedAgainStillChecks();
        confirmedAgainWithQueue();
        unconfirmedAgain();
        pastFrameIsNotAnswered();
        whatWasDueIsDueNoMore();
        noPayload();
        spoiledData();
        rightLengths();
        highBitsOfControl();
        heads();
        addresses();
        oneOptionATwo();
        twoOptions();
        anotherDevicesFrame();
        sessionsBeginAnew();
        Due.end();
    }

    private static void eachFrameOnce() {
        Due.by("Terms: the server takes each frame once, whichever gateways hear it");
        Net x = Scene.joined(0);
        x.send(0, 41, 1, false, false);
        for (int i = 0; i < 4; i++) {
            x.hear(0, i % 2);
            Due.is("received", x.received(0, true), 1);
        }
        x.replay(0);
        x.hear(1, 1);
        Due.is("a copy", x.received(0, true), 1);
        Due.is("payload", x.payload(0, true, 0), 41);
    }

    private static void countBehindIsPast() {
        Due.by("Terms: Its count is not less than the greatest one; The code must be right");
        Net x = Scene.joined(0);
        x.send(0, 41, 1, false, false);
        x.tick(3);
        x.send(0, 42, 1, false, false);
        x.hear(1, 0);
        Due.is("the later one", x.received(0, true), 1);
        x.hear(0, 0);
        Due.is("the one before is past", x.received(0, true), 1);
        Due.is("payload", x.payload(0, true, 0), 42);
    }

    private static void firstCounts() {
        Due.by("Terms: the greatest count up (none at first): the least number that ends with the two bytes");
        int[] skips = {0, 1, 65534, 65535, 65536, 65537};
        int[] want = {1, 1, 1, 1, 0, 0};
        for (int i = 0; i < skips.length; i++) {
            Net x = Scene.joined(1);
            if (skips[i] > 0) {
                x.skip(1, skips[i]);
            }
            x.send(1, 8, 1, true, false);
            x.hear(0, 0);
            Due.is("a first count of " + skips[i], x.received(1, true), want[i]);
            x.tick(1);
            Due.is("its ANSWER", x.frames(), 1 + want[i]);
        }
    }

    private static void countWindow() {
        Due.by("Terms: the least number that ends with the two bytes, and is not less than the greatest one");
        int[] skips = {1, 65533, 65534, 65535, 65536, 69999};
        int[] want = {2, 2, 2, 1, 1, 1};
        for (int first : new int[] {0, 5, 65535}) {
            for (int i = 0; i < skips.length; i++) {
                Net x = Scene.joined(1);
                if (first > 0) {
                    x.skip(1, first);
                }
                x.send(1, 8, 1, false, false);
                x.hear(0, 0);
                x.tick(3);
                x.skip(1, skips[i]);
                x.send(1, 9, 1, true, false);
                x.hear(1, 0);
                Due.is("behind " + first + ", " + (skips[i] + 1) + " more", x.received(1, true), want[i]);
                Due.is("the latest", x.payload(1, true, want[i] - 1), want[i] == 2 ? 9 : 8);
                x.tick(1);
                Due.is("its ANSWER", x.frames(), 1 + want[i]);
            }
        }
    }

    private static void countPassesTwoBytes() {
        Due.by("Terms: a count that passes 65535 and goes on (up)");
        Net x = Scene.joined(1);
        x.skip(1, 65534);
        for (int i = 0; i < 4; i++) {
            Due.is("send", x.send(1, 70 + i, 1, false, false), 65534 + i);
            x.hear(0, 0);
            Due.is("received", x.received(1, true), i + 1);
            Due.is("payload", x.payload(1, true, i), 70 + i);
            x.tick(3);
            x.lose(0);
        }
        x.skip(1, 65534);
        Due.is("send", x.send(1, 80, 1, false, false), 131072);
        x.hear(0, 0);
        Due.is("65535 more", x.payload(1, true, 4), 80);
        x.replay(1);
        x.hear(1, 0);
        Due.is("one from before is past", x.received(1, true), 5);
    }

    private static void equalCountPastTwoBytes() {
        Due.by("Terms: When the count is the greatest one (a count of more than two bytes)");
        Net x = Scene.joined(0);
        x.skip(0, 65535);
        x.send(0, 1, 0, false, false);
        x.hear(0, 0);
        x.tick(3);
        x.lose(0);
        Due.is("send", x.send(0, 2, 1, true, true), 65536);
        x.hear(0, 0);
        x.hear(0, 1);
        Due.is("received once", x.received(0, true), 1);
        x.tick(1);
        Scene.bytes("both gateways are in the set", x, 1, Scene.downFrame(0, 35, 0, 2, 0, 0));
    }

    private static void setOfGateways() {
        Due.by("Terms: the set is that gateway; the gateway joins the set");
        int[][] heard = {{0}, {1}, {0, 0}, {1, 1}, {0, 1}, {1, 0}, {1, 1, 0}, {0, 1, 0, 1}};
        int[] want = {1, 1, 1, 1, 2, 2, 2, 2};
        for (int i = 0; i < heard.length; i++) {
            Net x = Scene.joined(2);
            x.send(2, 2, 0, false, true);
            for (int g : heard[i]) {
                x.hear(0, g);
            }
            x.tick(1);
            Scene.bytes("gateways " + i, x, 1, Scene.downFrame(2, 3, 0, want[i], 0, 0));
            x.reach(1);
            Due.is("check " + i, x.tally(2, 2), want[i]);
        }
    }

    private static void setBeginsAnew() {
        Due.by("Terms: When it is greater: the set is that gateway");
        Net x = Scene.joined(2);
        x.send(2, 1, 1, false, false);
        x.hear(0, 0);
        x.hear(0, 1);
        x.tick(3);
        x.lose(0);
        x.send(2, 2, 0, false, true);
        x.hear(0, 1);
        x.tick(1);
        Scene.bytes("one gateway", x, 1, Scene.downFrame(2, 3, 0, 1, 0, 0));
    }

    private static void confirmedAgain() {
        Due.by("Terms: if the frame is confirmed, an ANSWER that acknowledges is due");
        Net x = Scene.joined(0);
        x.send(0, 1, 1, true, true);
        x.hear(0, 0);
        x.tick(1);
        Scene.bytes("it acknowledges and checks", x, 1, Scene.downFrame(0, 35, 0, 1, 0, 0));
        x.lose(1);
        x.hear(0, 1);
        x.tick(1);
        Scene.bytes("heard again, it acknowledges alone", x, 1, Scene.downFrame(0, 32, 1, 0, 0, 0));
        x.tick(1);
        Due.is("nothing but the frame again", x.frames(), 3);
        Due.is("received once", x.received(0, true), 1);
    }

    private static void confirmedAgainStillChecks() {
        Due.by("Terms: and that checks, if one that checks was due");
        Net x = Scene.joined(0);
        x.send(0, 1, 1, true, true);
        x.hear(0, 0);
        x.hear(0, 1);
        x.tick(1);
        Scene.bytes("it checks still", x, 1, Scene.downFrame(0, 35, 0, 2, 0, 0));
        Net y = Scene.joined(0);
        y.send(0, 1, 1, true, false);
        y.hear(0, 0);
        y.hear(0, 1);
        y.tick(1);
        Scene.bytes("it checks no more than before", y, 1, Scene.downFrame(0, 32, 0, 0, 0, 0));
    }

    private static void confirmedAgainWithQueue() {
        Due.by("Terms: an ANSWER takes the queue's first payload, also when the frame is heard again");
        Net x = Scene.joined(0);
        x.queue(0, 31, 1);
        x.queue(0, 32, 1);
        x.send(0, 1, 1, true, false);
        x.hear(0, 0);
        x.tick(1);
        x.lose(1);
        x.hear(0, 0);
        x.tick(1);
        Scene.bytes("the second payload", x, 1, Scene.downFrame(0, 32, 1, 0, 32, 1));
        x.reach(1);
        Due.is("payload", x.payload(0, false, 0), 32);
    }

    private static void unconfirmedAgain() {
        Due.by("Terms: When the count is the greatest one: if the frame is not confirmed, nothing more is due");
        Net x = Scene.joined(0);
        x.send(0, 1, 1, false, true);
        x.hear(0, 0);
        x.tick(1);
        x.lose(1);
        x.queue(0, 9, 1);
        x.hear(0, 1);
        x.tick(1);
        Due.is("frames", x.frames(), 1);
        Net y = Scene.joined(0);
        y.send(0, 1, 1, false, true);
        y.hear(0, 0);
        y.hear(0, 0);
        y.tick(1);
        Scene.bytes("what was due is due", y, 1, Scene.downFrame(0, 3, 0, 1, 0, 0));
    }

    private static void pastFrameIsNotAnswered() {
        Due.by("Terms: a confirmed frame that is past makes nothing due");
        Net x = Scene.joined(0);
        x.send(0, 1, 1, true, true);
        x.hear(0, 0);
        x.tick(1);
        x.reach(1);
        x.send(0, 2, 1, false, true);
        x.hear(1, 0);
        x.tick(1);
        x.reach(2);
        x.queue(0, 9, 1);
        x.hear(0, 1);
        x.tick(1);
        Due.is("frames", x.frames(), 2);
        x.hear(1, 1);
        x.send(0, 3, 1, false, true);
        x.hear(2, 0);
        x.hear(0, 1);
        x.tick(1);
        Scene.bytes("and its gateway is not in the set", x, 3, Scene.downFrame(0, 3, 2, 1, 9, 1));
    }

    private static void whatWasDueIsDueNoMore() {
        Due.by("Terms: What was due before is due no more then");
        for (int second = 0; second < 4; second++) {
            boolean confirmed = second % 2 == 1;
            boolean check = second >= 2;
            Net x = Scene.joined(0);
            x.send(0, 1, 1, true, true);
            x.hear(0, 0);
            x.tick(1);
            x.reach(1);
            x.send(0, 2, 1, false, true);
            x.tick(3);
            x.send(0, 3, 1, confirmed, check);
            x.hear(1, 0);
            x.hear(2, 1);
            x.tick(1);
            Due.is("one ANSWER or none", x.frames(), second == 0 ? 3 : 4);
            if (second > 0) {
                int control = (confirmed ? 32 : 0) + (check ? 3 : 0);
                Scene.bytes("what the later one asks", x, 3, Scene.downFrame(0, control, 1, 1, 0, 0));
            }
        }
        Net y = Scene.joined(0);
        y.send(0, 1, 1, true, false);
        y.tick(12);
        Scene.clear(y);
        Scene.bringIn(y, 0);
        Due.is("IN again", y.state(0), 2);
        y.send(0, 1, 1, true, false);
        y.hear(0, 0);
        y.tick(1);
        Due.is("an ANSWER, and no ACCEPT", y.frames(), 2);
        Due.is("its head", y.octet(1, 0), 96);
    }

    private static void noPayload() {
        Due.by("Terms: a payload is received, when there is one");
        Net x = Scene.joined(0);
        x.send(0, 1, 0, true, true);
        x.hear(0, 0);
        Due.is("received", x.received(0, true), 0);
        x.tick(1);
        Due.is("it is answered all the same", x.frames(), 2);
        x.reach(1);
        x.send(0, 0, 1, false, false);
        x.hear(1, 0);
        Due.is("a payload that is 0", x.received(0, true), 1);
        Due.is("it is 0", x.payload(0, true, 0), 0);
    }

    private static void spoiledData() {
        Due.by("Terms: The code must be right (up)");
        for (int n : new int[] {0, 3}) {
            for (int i = 0; i < 13 + (n == 0 ? 0 : 1 + n); i++) {
                Net x = Scene.joined(0);
                x.send(0, 0x0a0b0c, n, true, true);
                for (int bit = 0; bit < 8; bit++) {
                    x.spoil(0, i, 1 << bit);
                    Due.is("hear", x.hear(0, 0), true);
                    Due.is("byte " + i + ", bit " + bit, x.received(0, true), 0);
                    x.spoil(0, i, 1 << bit);
                }
                x.tick(1);
                Due.is("nothing is due, byte " + i, x.frames(), 1);
                x.hear(0, 0);
                x.tick(1);
                Due.is("the whole one, behind byte " + i, x.frames(), 2);
                Due.is("received", x.received(0, true), n == 0 ? 0 : 1);
            }
        }
    }

    /** Frames of each length that a device can send, whose control tells up to three options, with right codes. */
    private static void rightLengths() {
        Due.by("Terms: RIGHT when it is 12 bytes more than there are options, and none or 2 to 9 more (up)");
        for (int length = 12; length <= 22; length++) {
            for (int options = 0; options <= 3; options++) {
                int more = length - 12 - options;
                boolean right = more == 0 || more >= 2 && more <= 9;
                Net x = sentWithLength(length);
                x.queue(0, 1, 1);
                byte[] before = new byte[length - 4];
                System.arraycopy(Scene.upFrame(0, false, false, 0, 0, 0), 0, before, 0, 8);
                before[5] = (byte) options;
                for (int i = 8; i < before.length; i++) {
                    before[i] = 1;
                }
                Scene.spoilInto(x, 0, Scene.withCode(before, 0, 0));
                Due.is("hear", x.hear(0, 0), true);
                x.tick(1);
                String what = "length " + length + " with " + options + " options";
                Due.is(what, x.frames(), right ? 2 : 1);
                Due.is(what + ": received", x.received(0, true), right && more > 0 ? 1 : 0);
            }
        }
    }

    private static Net sentWithLength(int length) {
        Net x = Scene.joined(0);
        boolean check = length == 13 || length == 22;
        int more = length - 12 - (check ? 1 : 0);
        x.send(0, 0, Math.max(0, more - 1), false, check);
        return x;
    }

    private static void highBitsOfControl() {
        Due.by("Terms: OPTIONS, as many as control mod 16");
        for (int high : new int[] {16, 32, 64, 128, 240}) {
            Net x = Scene.joined(0);
            x.send(0, 7, 1, true, true);
            byte[] want = Scene.forged(Scene.upFrame(0, true, true, 0, 7, 1), 0, 0, 5, high + 1);
            Scene.spoilInto(x, 0, want);
            x.hear(0, 0);
            Due.is("payload with control " + (high + 1), x.payload(0, true, 0), 7);
            x.tick(1);
            Scene.bytes("it acknowledges and checks", x, 1, Scene.downFrame(0, 35, 0, 1, 0, 0));
        }
    }

    private static void heads() {
        Due.by("Terms: DATA up with the head 64 or 128");
        for (int head = 0; head < 256; head++) {
            Net x = Scene.joined(0);
            x.queue(0, 3, 1);
            x.send(0, 1, 1, true, false);
            Scene.spoilInto(x, 0, Scene.forged(Scene.upFrame(0, true, false, 0, 1, 1), 0, 0, 0, head));
            Due.is("hear", x.hear(0, 0), true);
            boolean taken = head == 64 || head == 128;
            Due.is("head " + head, x.received(0, true), taken ? 1 : 0);
            x.tick(1);
            Due.is("answered", x.frames(), taken ? 2 : 1);
            if (taken) {
                Due.is("acknowledged, if confirmed", x.octet(1, 5), head == 128 ? 32 : 0);
            }
        }
    }

    private static void addresses() {
        Due.by("Terms: the address of a device's session");
        for (int i = 1; i <= 4; i++) {
            for (int change : new int[] {1, 2, 3, 128, 255}) {
                Net x = Scene.joined(0);
                x.send(0, 1, 1, true, false);
                byte[] frame = Scene.upFrame(0, true, false, 0, 1, 1);
                Scene.spoilInto(x, 0, Scene.forged(frame, 0, 0, i, (frame[i] & 255) ^ change));
                Due.is("hear", x.hear(0, 1), true);
                Due.is("address byte " + i, x.received(0, true), 0);
                x.tick(1);
                Due.is("nothing is due", x.frames(), 1);
            }
        }
        Net y = Scene.fresh();
        y.join(0);
        y.hear(0, 0);
        y.tick(1);
        y.reach(1);
        y.send(0, 1, 8, true, true);
        Scene.spoilInto(y, 1, Crypt.dataFrame(new byte[][] {new byte[16], new byte[16]}, 128, 0, 1, 0,
            new int[] {2}, Crypt.lowest(1, 8)));
        Due.is("an address 0, when two devices have no session", y.hear(1, 0), true);
        Due.is("received", y.received(1, true) + y.received(2, true), 0);
    }

    private static void oneOptionATwo() {
        Due.by("Terms: has one option, a 2 (it checks)");
        for (int option : new int[] {2, 0, 1, 3, 130, 255}) {
            Net x = Scene.joined(0);
            x.send(0, 7, 1, false, true);
            Scene.spoilInto(x, 0, Scene.forged(Scene.upFrame(0, false, true, 0, 7, 1), 0, 0, 8, option));
            x.hear(0, 0);
            Due.is("payload", x.payload(0, true, 0), 7);
            x.tick(1);
            Due.is("option " + option, x.frames(), option == 2 ? 2 : 1);
        }
    }

    private static void twoOptions() {
        Due.by("Terms: has one option, a 2 (not two or three)");
        for (int options = 2; options <= 3; options++) {
            int[] row = new int[options];
            java.util.Arrays.fill(row, 2);
            Net x = Scene.joined(0);
            x.send(0, 7, 7, true, true);
            byte[] payload = Crypt.lowest(0x55, 8 - options);
            Scene.spoilInto(x, 0, Crypt.dataFrame(Scene.firstKeys(0), 128, Crypt.address(0, 1), options, 0, row,
                payload));
            x.hear(0, 0);
            Due.is("payload", x.payload(0, true, 0), 0x55);
            x.tick(1);
            Scene.bytes(options + " options: it acknowledges alone", x, 1, Scene.downFrame(0, 32, 0, 0, 0, 0));
        }
    }

    private static void anotherDevicesFrame() {
        Due.by("Terms: the address tells whose frame it is");
        Net x = Scene.joined(0);
        Scene.bringIn(x, 1);
        x.send(0, 7, 1, true, false);
        byte[][] keys = Crypt.keys(Crypt.root(Scene.SEED, 1), 2, 1);
        Scene.spoilInto(x, 0, Crypt.dataFrame(keys, 128, Crypt.address(1, 1), 0, 4, new int[0],
            Crypt.lowest(9, 1)));
        x.hear(0, 0);
        Due.is("received from 0", x.received(0, true), 0);
        Due.is("received from 1", x.payload(1, true, 0), 9);
        x.tick(1);
        Due.is("goal of the ANSWER", x.goal(1), 1);
    }

    private static void sessionsBeginAnew() {
        Due.by("Terms: a session, with the greatest count up (none at first) and the next one down (0 at first)");
        Net x = Scene.joined(0);
        for (int session = 1; session <= 3; session++) {
            byte[][] keys = Crypt.keys(Crypt.root(Scene.SEED, 0), session, session);
            for (int count = 0; count < 3; count++) {
                int all = 3 * (session - 1) + count;
                x.queue(0, 40 + all, 1);
                Due.is("count up", x.send(0, 1, 1, true, false), count);
                x.hear(0, 0);
                x.tick(1);
                Scene.bytes("count down", x, 1, Crypt.dataFrame(keys, 96, Crypt.address(0, session), 32, count,
                    new int[0], Crypt.lowest(40 + all, 1)));
                x.reach(1);
                x.lose(0);
                Due.is("acknowledged", x.tally(0, 0), all + 1);
                Due.is("received", x.received(0, true), all + 1);
            }
            Scene.bringIn(x, 0);
        }
    }
}
