import java.util.ArrayList;
import java.util.Arrays;
import java.util.List;
import java.util.TreeSet;

/** The document told a second time, with the Java library, to hold WideNet against in long runs. */
final class Model {
    private static final class Flying {
        final byte[] bytes;
        final int goal;

        Flying(byte[] bytes, int goal) {
            this.bytes = bytes;
            this.goal = goal;
        }

        Flying copy() {
            return new Flying(bytes.clone(), goal);
        }

        int at(int i) {
            return bytes[i] & 255;
        }

        long number(int from, int n) {
            long value = 0;
            for (int i = n - 1; i >= 0; i--) {
                value = value * 256 + at(from + i);
            }
            return value;
        }

        int options() {
            return at(5) % 16;
        }

        boolean rightLength() {
            int more = bytes.length - 12 - options();
            return more == 0 || (more >= 2 && more <= 9);
        }

        byte[] beforeCode() {
            return Arrays.copyOf(bytes, bytes.length - 4);
        }

        byte[] lastFour() {
            return Arrays.copyOfRange(bytes, bytes.length - 4, bytes.length);
        }

        byte[] secret() {
            int from = 9 + options();
            int to = bytes.length - 4;
            return from < to ? Arrays.copyOfRange(bytes, from, to) : new byte[0];
        }
    }

    private static final class Session {
        long address;
        byte[][] keys;
        long greatest = -1;
        long next = 0;

        boolean right(Flying frame, int direction, long count) {
            return Arrays.equals(frame.lastFour(),
                Crypt.dataCode(keys[0], direction, address, count, frame.beforeCode()));
        }

        long open(Flying frame, int direction, long count) {
            byte[] plain = Crypt.enciphered(keys[1], direction, address, count, frame.secret());
            return new Flying(plain, 0).number(0, plain.length);
        }
    }

    private static final class Side {
        // the device
        int state = 0;
        boolean waits = false;
        int nonce = 0;
        long greatestSerial = 0;
        Session session = null;
        int sentAt = 0;
        int times = 0;
        boolean confirmed = false;
        Flying sent = null;
        final List<Long> got = new ArrayList<>();
        int acknowledged = 0;
        int failed = 0;
        int check = 0;
        // the server
        final List<byte[]> queue = new ArrayList<>();
        Session served = null;
        int servedSerial = 0;
        int sessions = 0;
        int greatestNonce = -1;
        final TreeSet<Integer> gateways = new TreeSet<>();
        String due = "";
        final List<Long> taken = new ArrayList<>();
    }

    private final byte[][] roots = new byte[3][];
    private final Side[] sides = {new Side(), new Side(), new Side()};
    private final List<Flying> underWay = new ArrayList<>();
    private final List<Flying> history = new ArrayList<>();
    private int time = 0;
    private int serial = 0;

    Model(int seed) {
        for (int d = 0; d < 3; d++) {
            roots[d] = Crypt.root(seed, d);
        }
    }

    private void launch(Flying frame) {
        history.add(frame.copy());
        if (underWay.size() < 12) {
            underWay.add(frame.copy());
        }
    }

    private static boolean no(int d) {
        return d < 0 || d > 2;
    }

    private boolean none(int k) {
        return k < 0 || k >= underWay.size();
    }

    private void emit(Side side, Flying frame, boolean confirmed) {
        side.sent = frame;
        side.times = 1;
        side.confirmed = confirmed;
        side.sentAt = time;
        side.waits = true;
        launch(frame);
    }

    int join(int d) {
        if (no(d) || sides[d].waits || sides[d].nonce == 65535) {
            return -1;
        }
        Side side = sides[d];
        side.nonce++;
        side.state = 1;
        side.session = null;
        emit(side, new Flying(Crypt.joinFrame(roots[d], d, side.nonce), 3), false);
        return side.nonce;
    }

    int send(int d, long payload, int n, boolean confirmed, boolean check) {
        if (no(d) || sides[d].state != 2 || sides[d].waits || n < 0 || n > 8) {
            return -1;
        }
        Session session = sides[d].session;
        long count = session.next++;
        byte[] bytes = Crypt.dataFrame(session.keys, confirmed ? 128 : 64, session.address, check ? 1 : 0, count,
            check ? new int[] {2} : new int[0], Crypt.lowest(payload, n));
        emit(sides[d], new Flying(bytes, 3), confirmed);
        return (int) count;
    }

    int skip(int d, int n) {
        if (no(d) || sides[d].state != 2 || sides[d].waits || n < 1 || n > 70000) {
            return -1;
        }
        sides[d].session.next += n;
        return (int) sides[d].session.next;
    }

    int queue(int d, long payload, int n) {
        if (no(d) || n < 1 || n > 8 || sides[d].queue.size() == 4) {
            return -1;
        }
        sides[d].queue.add(Crypt.lowest(payload, n));
        return sides[d].queue.size();
    }

    int tick(int n) {
        if (n < 1 || n > 50) {
            return -1;
        }
        for (int i = 0; i < n; i++) {
            time++;
            for (int d = 0; d < 3; d++) {
                serve(d);
            }
            for (Side side : sides) {
                rest(side);
            }
        }
        return time;
    }

    private void serve(int d) {
        Side side = sides[d];
        if (side.due.equals("accept")) {
            launch(new Flying(Crypt.acceptFrame(roots[d], side.servedSerial, side.served.address), d));
        } else if (side.due.startsWith("answer")) {
            boolean acknowledges = side.due.contains("ack");
            boolean checks = side.due.contains("check");
            int control = (acknowledges ? 32 : 0) + (side.queue.size() > 1 ? 16 : 0) + (checks ? 3 : 0);
            byte[] payload = side.queue.isEmpty() ? new byte[0] : side.queue.remove(0);
            int[] options = checks ? new int[] {2, 10, side.gateways.size()} : new int[0];
            launch(new Flying(Crypt.dataFrame(side.served.keys, 96, side.served.address, control,
                side.served.next++, options, payload), d));
        }
        side.due = "";
    }

    private void rest(Side side) {
        if (!side.waits || time != side.sentAt + 3) {
            return;
        }
        side.waits = false;
        if (side.state == 1) {
            side.state = 0;
        } else if (side.confirmed && side.times == 4) {
            side.state = 0;
            side.session = null;
            side.failed++;
        } else if (side.confirmed) {
            side.times++;
            side.sentAt = time;
            side.waits = true;
            launch(side.sent);
        }
    }

    boolean hear(int k, int g) {
        if (none(k) || g < 0 || g > 1 || underWay.get(k).goal != 3) {
            return false;
        }
        Flying frame = underWay.get(k);
        if (frame.at(0) == 0) {
            hearJoin(frame);
        } else if (frame.at(0) == 64 || frame.at(0) == 128) {
            hearData(frame, g);
        }
        return true;
    }

    private void hearJoin(Flying frame) {
        if (frame.bytes.length != 23 || frame.at(9) > 2) {
            return;
        }
        int d = frame.at(9);
        int nonce = (int) frame.number(17, 2);
        if (!Arrays.equals(frame.bytes, Crypt.joinFrame(roots[d], d, nonce)) || nonce <= sides[d].greatestNonce) {
            return;
        }
        Side side = sides[d];
        side.greatestNonce = nonce;
        serial++;
        side.sessions++;
        side.servedSerial = serial;
        side.served = new Session();
        side.served.address = Crypt.address(d, side.sessions);
        side.served.keys = Crypt.keys(roots[d], serial, nonce);
        side.due = "accept";
    }

    private void hearData(Flying frame, int g) {
        if (!frame.rightLength()) {
            return;
        }
        for (Side side : sides) {
            Session session = side.served;
            if (session == null || session.address != frame.number(1, 4)) {
                continue;
            }
            long count = Math.max(0, session.greatest);
            while (count % 65536 != frame.number(6, 2)) {
                count++;
            }
            if (!session.right(frame, 0, count)) {
                return;
            }
            boolean confirmed = frame.at(0) == 128;
            if (count == session.greatest) {
                side.gateways.add(g);
                if (confirmed) {
                    side.due = side.due.contains("check") ? "answer ack check" : "answer ack";
                }
                return;
            }
            session.greatest = count;
            side.gateways.clear();
            side.gateways.add(g);
            if (frame.secret().length > 0) {
                side.taken.add(session.open(frame, 0, count));
            }
            boolean check = frame.options() == 1 && frame.at(8) == 2;
            side.due = confirmed || check || !side.queue.isEmpty() ? "answer" : "";
            side.due += confirmed ? " ack" : "";
            side.due += check ? " check" : "";
            return;
        }
    }

    boolean reach(int k) {
        if (none(k) || underWay.get(k).goal == 3) {
            return false;
        }
        Flying frame = underWay.remove(k);
        Side side = sides[frame.goal];
        if (side.waits && (time == side.sentAt + 1 || time == side.sentAt + 2)) {
            if (side.state == 1) {
                reachJoining(side, frame);
            } else {
                reachIn(side, frame);
            }
        }
        return true;
    }

    private void reachJoining(Side side, Flying frame) {
        if (frame.bytes.length != 17 || frame.at(0) != 32) {
            return;
        }
        byte[] root = roots[frame.goal];
        byte[] sixteen = Crypt.aes(root, Arrays.copyOfRange(frame.bytes, 1, 17));
        Flying plain = new Flying(new Crypt.Row().add(32).all(sixteen).done(), 0);
        long taken = plain.number(1, 3);
        if (!Arrays.equals(plain.lastFour(), Crypt.code(root, plain.beforeCode())) || taken <= side.greatestSerial) {
            return;
        }
        side.greatestSerial = taken;
        side.session = new Session();
        side.session.address = plain.number(7, 4);
        side.session.keys = Crypt.keys(root, (int) taken, side.nonce);
        side.state = 2;
        side.waits = false;
    }

    private void reachIn(Side side, Flying frame) {
        Session session = side.session;
        if (frame.at(0) != 96 || !frame.rightLength() || frame.number(1, 4) != session.address) {
            return;
        }
        long count = session.greatest + 1;
        while (count % 65536 != frame.number(6, 2)) {
            count++;
        }
        if (!session.right(frame, 1, count)) {
            return;
        }
        session.greatest = count;
        if (frame.secret().length > 0) {
            side.got.add(session.open(frame, 1, count));
        }
        if (frame.options() == 3 && frame.at(8) == 2) {
            side.check = frame.at(10);
        }
        if (!side.confirmed) {
            side.waits = false;
        } else if ((frame.at(5) & 32) != 0) {
            side.waits = false;
            side.acknowledged++;
        }
    }

    /**
     * A frame of the k-th one's length and way, from device d or to the device it goes to, with a right code for this
     * head, control and a count that is so much more than the greatest one; null when there is no session for that.
     */
    byte[] forged(int k, int d, int head, int control, long more) {
        Flying frame = underWay.get(k);
        boolean up = frame.goal == 3;
        Session session = up ? sides[d].served : sides[frame.goal].session;
        if (session == null) {
            return null;
        }
        long count = Math.max(0, session.greatest + more);
        byte[] before = new Crypt.Row().add(head).number(session.address, 4).add(control).number(count, 2)
            .add(2, 10, 2).zeros(frame.bytes.length).done();
        before = Arrays.copyOf(before, frame.bytes.length - 4);
        return new Crypt.Row().all(before)
            .all(Crypt.dataCode(session.keys[0], up ? 0 : 1, session.address, count, before)).done();
    }

    boolean lose(int k) {
        if (none(k)) {
            return false;
        }
        underWay.remove(k);
        return true;
    }

    boolean replay(int j) {
        if (j < 0 || j > 7 || j >= history.size() || underWay.size() == 12) {
            return false;
        }
        underWay.add(history.get(history.size() - 1 - j).copy());
        return true;
    }

    boolean spoil(int k, int i, int x) {
        if (none(k) || i < 0 || i >= underWay.get(k).bytes.length || x < 1 || x > 255) {
            return false;
        }
        underWay.get(k).bytes[i] ^= (byte) x;
        return true;
    }

    int frames() {
        return underWay.size();
    }

    int length(int k) {
        return none(k) ? -1 : underWay.get(k).bytes.length;
    }

    int octet(int k, int i) {
        return none(k) || i < 0 || i >= underWay.get(k).bytes.length ? -1 : underWay.get(k).at(i);
    }

    int goal(int k) {
        return none(k) ? -1 : underWay.get(k).goal;
    }

    int state(int d) {
        return no(d) ? -1 : sides[d].state + (sides[d].waits ? 10 : 0);
    }

    int received(int d, boolean up) {
        return no(d) ? -1 : (up ? sides[d].taken : sides[d].got).size();
    }

    long payload(int d, boolean up, int i) {
        if (no(d)) {
            return -1;
        }
        List<Long> all = up ? sides[d].taken : sides[d].got;
        return i < 0 || i >= all.size() || i < all.size() - 4 ? -1 : all.get(i);
    }

    int tally(int d, int what) {
        if (no(d) || what < 0 || what > 3) {
            return -1;
        }
        return new int[] {sides[d].acknowledged, sides[d].failed, sides[d].check, sides[d].sessions}[what];
    }
}
