/**
 * Edges that the document names and no object can come to within its 512 calls: a nonce of 65535, the second byte
 * of a nonce in a frame, and the 256th session of a device. What later calls answer is free, so these are promises of
 * this program rather than of the document: it keeps to the document's words however long it is used.
 */
public final class FarTest {
    private static final int GREATEST_NONCE = 65535;

    private FarTest() {
    }

    public static void main(String[] args) {
        nonces();
        sessions();
        Due.end();
    }

    private static void nonces() {
        Due.by("Promise 2: NONE when its nonce is 65535");
        WideNet x = new WideNet(Scene.SEED);
        for (int nonce = 1; nonce <= GREATEST_NONCE; nonce++) {
            Due.is("join(0)", x.join(0), nonce);
            if (nonce == 255 || nonce == 256 || nonce == 257 || nonce == GREATEST_NONCE) {
                Due.is("low byte", x.octet(0, 17), nonce % 256);
                Due.is("high byte", x.octet(0, 18), nonce / 256);
            }
            x.lose(0);
            x.tick(3);
        }
        for (int i = 0; i < 3; i++) {
            Due.is("join(0) at the greatest nonce", x.join(0), -1);
            Due.is("state", x.state(0), 0);
            Due.is("frames", x.frames(), 0);
        }
        Due.is("another device", x.join(1), 1);
        x.lose(0);
        x.replay(1);
        Due.is("the last JOIN of 0 is remembered", x.octet(0, 17) + 256 * x.octet(0, 18), GREATEST_NONCE);
        x.hear(0, 0);
        x.tick(1);
        Due.is("the server takes that nonce", x.tally(0, 3), 1);
    }

    private static void sessions() {
        Due.by("Terms: the number of its sessions (with this one) mod 256");
        WideNet x = new WideNet(Scene.SEED);
        for (int session = 1; session <= 515; session++) {
            x.join(2);
            x.hear(0, 0);
            x.tick(1);
            x.reach(1);
            x.lose(0);
            Due.is("sessions", x.tally(2, 3), session);
            x.send(2, session, 2, true, false);
            Due.is("address byte 0", x.octet(0, 1), 3);
            Due.is("address byte 1", x.octet(0, 2), session % 256);
            Due.is("address byte 2", x.octet(0, 3), 0);
            Due.is("address byte 3", x.octet(0, 4), 38);
            x.hear(0, 1);
            x.tick(1);
            x.reach(1);
            x.lose(0);
            Due.is("received", x.payload(2, true, session - 1), session);
            Due.is("acknowledged", x.tally(2, 0), session);
        }
    }
}
