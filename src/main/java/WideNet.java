import java.util.Arrays;

/** A radio network of devices, two gateways and a server, call by call. */
public final class WideNet {
    public static final int NONE = -1;

    private static final int DEVICES = 3;
    private static final int GATEWAYS = 2;
    private static final int MOST_PAYLOAD_BYTES = 8;
    private static final int MOST_SKIPPED = 70000;
    private static final int MOST_TICKS = 50;
    private static final int GREATEST_NONCE = 65535;

    private static final int BLOCK = 16;
    private static final int CODE_BYTES = 4;
    /** The goal of a frame that goes up: one more than the last device. */
    private static final int UPWARDS = 3;
    private static final int DIRECTION_UP = 0;
    private static final int DIRECTION_DOWN = 1;

    private static final int HEAD_JOIN = 0;
    private static final int HEAD_ACCEPT = 32;
    private static final int HEAD_UP = 64;
    private static final int HEAD_DOWN = 96;
    private static final int HEAD_UP_CONFIRMED = 128;
    private static final int OPTION_CHECK = 2;
    private static final int CONTROL_ACKNOWLEDGES = 32;
    private static final int CONTROL_MORE_QUEUED = 16;

    private final Air air = new Air();
    private final Device[] devices = new Device[DEVICES];
    private final Server server;
    private int time = 0;

    public WideNet(int seed) {
        Mac[] roots = new Mac[DEVICES];
        int[] key = new int[BLOCK];
        for (int d = 0; d < DEVICES; d++) {
            for (int i = 0; i < BLOCK; i++) {
                key[i] = (seed + 41 * d + 13 * i) & 255;
            }
            roots[d] = new Mac();
            roots[d].takeKey(key);
            devices[d] = new Device(d, roots[d]);
        }
        server = new Server(roots);
    }

    public int join(int d) {
        if (!isDevice(d) || devices[d].waits || devices[d].nonce >= GREATEST_NONCE) {
            return NONE;
        }
        devices[d].writeJoin();
        devices[d].transmit(air, time);
        return devices[d].nonce;
    }

    public int send(int d, long payload, int n, boolean confirmed, boolean check) {
        if (!isDevice(d) || !devices[d].isFree() || n < 0 || n > MOST_PAYLOAD_BYTES) {
            return NONE;
        }
        int count = devices[d].countUp;
        devices[d].writeData(payload, n, confirmed, check);
        devices[d].transmit(air, time);
        return count;
    }

    public int skip(int d, int n) {
        if (!isDevice(d) || !devices[d].isFree() || n < 1 || n > MOST_SKIPPED) {
            return NONE;
        }
        devices[d].countUp += n;
        return devices[d].countUp;
    }

    public int queue(int d, long payload, int n) {
        if (!isDevice(d) || n < 1 || n > MOST_PAYLOAD_BYTES) {
            return NONE;
        }
        return server.accounts[d].enqueue(payload, n);
    }

    public int tick(int n) {
        if (n < 1 || n > MOST_TICKS) {
            return NONE;
        }
        for (int i = 0; i < n; i++) {
            time++;
            server.sendWhatIsDue(air);
            for (int d = 0; d < DEVICES; d++) {
                devices[d].endWaiting(air, time);
            }
        }
        return time;
    }

    public boolean hear(int k, int g) {
        if (!air.holds(k) || g < 0 || g >= GATEWAYS) {
            return false;
        }
        Frame frame = air.underWay[k];
        if (frame.target != UPWARDS) {
            return false;
        }
        if (frame.hasJoinForm()) {
            server.takeJoin(frame);
        } else if (frame.hasDataForm() && frame.bytes[0] != HEAD_DOWN) {
            server.takeData(frame, g);
        }
        return true;
    }

    public boolean reach(int k) {
        if (!air.holds(k) || air.underWay[k].target == UPWARDS) {
            return false;
        }
        Frame frame = air.takeOut(k);
        devices[frame.target].take(frame, time);
        return true;
    }

    public boolean lose(int k) {
        if (!air.holds(k)) {
            return false;
        }
        air.takeOut(k);
        return true;
    }

    public boolean replay(int j) {
        return air.repeat(j);
    }

    public boolean spoil(int k, int i, int x) {
        if (!air.holds(k) || !air.underWay[k].holds(i) || x < 1 || x > 255) {
            return false;
        }
        air.underWay[k].bytes[i] ^= x;
        return true;
    }

    public int frames() {
        return air.size;
    }

    public int length(int k) {
        return air.holds(k) ? air.underWay[k].size : NONE;
    }

    public int octet(int k, int i) {
        return air.holds(k) && air.underWay[k].holds(i) ? air.underWay[k].bytes[i] : NONE;
    }

    public int goal(int k) {
        return air.holds(k) ? air.underWay[k].target : NONE;
    }

    public int state(int d) {
        if (!isDevice(d)) {
            return NONE;
        }
        return devices[d].state + (devices[d].waits ? 10 : 0);
    }

    public int received(int d, boolean up) {
        return isDevice(d) ? inbox(d, up).total : NONE;
    }

    public long payload(int d, boolean up, int i) {
        return isDevice(d) ? inbox(d, up).get(i) : NONE;
    }

    public int tally(int d, int what) {
        if (!isDevice(d)) {
            return NONE;
        }
        switch (what) {
            case 0:
                return devices[d].acknowledged;
            case 1:
                return devices[d].failed;
            case 2:
                return devices[d].checkedGateways;
            case 3:
                return server.accounts[d].sessions;
            default:
                return NONE;
        }
    }

    private static boolean isDevice(int d) {
        return d >= 0 && d < DEVICES;
    }

    private Inbox inbox(int d, boolean up) {
        return up ? server.accounts[d].inbox : devices[d].inbox;
    }

    /** The number that n bytes (at most four) make, the lowest first. */
    private static int number(int[] row, int from, int n) {
        int value = 0;
        for (int i = 0; i < n; i++) {
            value |= row[from + i] << (8 * i);
        }
        return value;
    }

    private static void putNumber(int[] row, int from, int value, int n) {
        for (int i = 0; i < n; i++) {
            row[from + i] = (value >>> (8 * i)) & 255;
        }
    }

    /** The least count from floor on that ends with these two bytes. */
    private static int countFrom(int floor, int twoBytes) {
        return floor + ((twoBytes - floor) & 65535);
    }

    /** The n lowest bytes (1 .. 8) of a payload. */
    private static long lowest(long payload, int n) {
        return payload & (-1L >>> (64 - 8 * n));
    }

    /** AES with one key; a column of the block is held as a number, its first byte lowest. */
    private static final class Cipher {
        private static final int ROUNDS = 10;
        private static final int[] SUBSTITUTES = {
             99, 124, 119, 123, 242, 107, 111, 197,  48,   1, 103,  43, 254, 215, 171, 118,
            202, 130, 201, 125, 250,  89,  71, 240, 173, 212, 162, 175, 156, 164, 114, 192,
            183, 253, 147,  38,  54,  63, 247, 204,  52, 165, 229, 241, 113, 216,  49,  21,
              4, 199,  35, 195,  24, 150,   5, 154,   7,  18, 128, 226, 235,  39, 178, 117,
              9, 131,  44,  26,  27, 110,  90, 160,  82,  59, 214, 179,  41, 227,  47, 132,
             83, 209,   0, 237,  32, 252, 177,  91, 106, 203, 190,  57,  74,  76,  88, 207,
            208, 239, 170, 251,  67,  77,  51, 133,  69, 249,   2, 127,  80,  60, 159, 168,
             81, 163,  64, 143, 146, 157,  56, 245, 188, 182, 218,  33,  16, 255, 243, 210,
            205,  12,  19, 236,  95, 151,  68,  23, 196, 167, 126,  61, 100,  93,  25, 115,
             96, 129,  79, 220,  34,  42, 144, 136,  70, 238, 184,  20, 222,  94,  11, 219,
            224,  50,  58,  10,  73,   6,  36,  92, 194, 211, 172,  98, 145, 149, 228, 121,
            231, 200,  55, 109, 141, 213,  78, 169, 108,  86, 244, 234, 101, 122, 174,   8,
            186, 120,  37,  46,  28, 166, 180, 198, 232, 221, 116,  31,  75, 189, 139, 138,
            112,  62, 181, 102,  72,   3, 246,  14,  97,  53,  87, 185, 134, 193,  29, 158,
            225, 248, 152,  17, 105, 217, 142, 148, 155,  30, 135, 233, 206,  85,  40, 223,
            140, 161, 137,  13, 191, 230,  66, 104,  65, 153,  45,  15, 176,  84, 187,  22,
        };
        private static final int[] ORIGINALS = {
             82,   9, 106, 213,  48,  54, 165,  56, 191,  64, 163, 158, 129, 243, 215, 251,
            124, 227,  57, 130, 155,  47, 255, 135,  52, 142,  67,  68, 196, 222, 233, 203,
             84, 123, 148,  50, 166, 194,  35,  61, 238,  76, 149,  11,  66, 250, 195,  78,
              8,  46, 161, 102,  40, 217,  36, 178, 118,  91, 162,  73, 109, 139, 209,  37,
            114, 248, 246, 100, 134, 104, 152,  22, 212, 164,  92, 204,  93, 101, 182, 146,
            108, 112,  72,  80, 253, 237, 185, 218,  94,  21,  70,  87, 167, 141, 157, 132,
            144, 216, 171,   0, 140, 188, 211,  10, 247, 228,  88,   5, 184, 179,  69,   6,
            208,  44,  30, 143, 202,  63,  15,   2, 193, 175, 189,   3,   1,  19, 138, 107,
             58, 145,  17,  65,  79, 103, 220, 234, 151, 242, 207, 206, 240, 180, 230, 115,
            150, 172, 116,  34, 231, 173,  53, 133, 226, 249,  55, 232,  28, 117, 223, 110,
             71, 241,  26, 113,  29,  41, 197, 137, 111, 183,  98,  14, 170,  24, 190,  27,
            252,  86,  62,  75, 198, 210, 121,  32, 154, 219, 192, 254, 120, 205,  90, 244,
             31, 221, 168,  51, 136,   7, 199,  49, 177,  18,  16,  89,  39, 128, 236,  95,
             96,  81, 127, 169,  25, 181,  74,  13,  45, 229, 122, 159, 147, 201, 156, 239,
            160, 224,  59,  77, 174,  42, 245, 176, 200, 235, 187,  60, 131,  83, 153,  97,
             23,  43,   4, 126, 186, 119, 214,  38, 225, 105,  20,  99,  85,  33,  12, 125,
        };

        private final int[] roundKeys = new int[4 * (ROUNDS + 1)];

        void takeKey(int[] key) {
            for (int i = 0; i < 4; i++) {
                roundKeys[i] = number(key, 4 * i, 4);
            }
            int constant = 1;
            for (int i = 4; i < roundKeys.length; i++) {
                int word = roundKeys[i - 1];
                if (i % 4 == 0) {
                    int turned = word >>> 8 | word << 24;
                    word = gathered(SUBSTITUTES, turned, turned, turned, turned) ^ constant;
                    constant = doubled(constant);
                }
                roundKeys[i] = roundKeys[i - 4] ^ word;
            }
        }

        /** Enciphers the sixteen bytes that begin at from, in their place. */
        void encipher(int[] row, int from) {
            int[] k = roundKeys;
            int a = number(row, from, 4) ^ k[0];
            int b = number(row, from + 4, 4) ^ k[1];
            int c = number(row, from + 8, 4) ^ k[2];
            int d = number(row, from + 12, 4) ^ k[3];
            for (int i = 4; i < 4 * ROUNDS; i += 4) {
                int p = gathered(SUBSTITUTES, a, b, c, d);
                int q = gathered(SUBSTITUTES, b, c, d, a);
                int r = gathered(SUBSTITUTES, c, d, a, b);
                int s = gathered(SUBSTITUTES, d, a, b, c);
                a = mixed(p, doubled(p)) ^ k[i];
                b = mixed(q, doubled(q)) ^ k[i + 1];
                c = mixed(r, doubled(r)) ^ k[i + 2];
                d = mixed(s, doubled(s)) ^ k[i + 3];
            }
            int last = 4 * ROUNDS;
            putNumber(row, from, gathered(SUBSTITUTES, a, b, c, d) ^ k[last], 4);
            putNumber(row, from + 4, gathered(SUBSTITUTES, b, c, d, a) ^ k[last + 1], 4);
            putNumber(row, from + 8, gathered(SUBSTITUTES, c, d, a, b) ^ k[last + 2], 4);
            putNumber(row, from + 12, gathered(SUBSTITUTES, d, a, b, c) ^ k[last + 3], 4);
        }

        /** Deciphers the sixteen bytes that begin at from, in their place. */
        void decipher(int[] row, int from) {
            int[] k = roundKeys;
            int last = 4 * ROUNDS;
            int a = number(row, from, 4) ^ k[last];
            int b = number(row, from + 4, 4) ^ k[last + 1];
            int c = number(row, from + 8, 4) ^ k[last + 2];
            int d = number(row, from + 12, 4) ^ k[last + 3];
            for (int i = last - 4; i > 0; i -= 4) {
                int p = gathered(ORIGINALS, a, d, c, b);
                int q = gathered(ORIGINALS, b, a, d, c);
                int r = gathered(ORIGINALS, c, b, a, d);
                int s = gathered(ORIGINALS, d, c, b, a);
                a = unmixed(p ^ k[i]);
                b = unmixed(q ^ k[i + 1]);
                c = unmixed(r ^ k[i + 2]);
                d = unmixed(s ^ k[i + 3]);
            }
            putNumber(row, from, gathered(ORIGINALS, a, d, c, b) ^ k[0], 4);
            putNumber(row, from + 4, gathered(ORIGINALS, b, a, d, c) ^ k[1], 4);
            putNumber(row, from + 8, gathered(ORIGINALS, c, b, a, d) ^ k[2], 4);
            putNumber(row, from + 12, gathered(ORIGINALS, d, c, b, a) ^ k[3], 4);
        }

        /** One column of bytes looked up in a table, the i-th byte taken from the i-th column given. */
        private static int gathered(int[] table, int first, int second, int third, int fourth) {
            return table[first & 255]
                | table[(second >>> 8) & 255] << 8
                | table[(third >>> 16) & 255] << 16
                | table[fourth >>> 24] << 24;
        }

        /** Each of the four bytes doubled in the field of AES. */
        private static int doubled(int column) {
            return ((column & 0x7f7f7f7f) << 1) ^ (((column >>> 7) & 0x01010101) * 27);
        }

        private static int mixed(int column, int twice) {
            int thrice = column ^ twice;
            return twice
                ^ (thrice >>> 8 | thrice << 24)
                ^ (column >>> 16 | column << 16)
                ^ (column >>> 24 | column << 8);
        }

        /** Mixing four times gives a column back, so this mixes thrice, the first two times in one step. */
        private static int unmixed(int column) {
            int opposites = column ^ (column >>> 16 | column << 16);
            int mixedTwice = column ^ doubled(doubled(opposites));
            return mixed(mixedTwice, doubled(mixedTwice));
        }
    }

    /** CMAC with one key. */
    private static final class Mac {
        private final Cipher cipher = new Cipher();
        private final int[] wholeSubkey = new int[BLOCK];
        private final int[] paddedSubkey = new int[BLOCK];
        private final int[] chained = new int[BLOCK];

        void takeKey(int[] key) {
            cipher.takeKey(key);
            Arrays.fill(wholeSubkey, 0);
            cipher.encipher(wholeSubkey, 0);
            moveUp(wholeSubkey);
            System.arraycopy(wholeSubkey, 0, paddedSubkey, 0, BLOCK);
            moveUp(paddedSubkey);
        }

        /** The code of the first n bytes of the row, as the number that its four bytes make. */
        int codeOf(int[] row, int n) {
            Arrays.fill(chained, 0);
            int from = 0;
            while (n - from > BLOCK) {
                combine(row, from, BLOCK);
                cipher.encipher(chained, 0);
                from += BLOCK;
            }
            int rest = n - from;
            combine(row, from, rest);
            if (rest < BLOCK) {
                chained[rest] ^= 128;
            }
            combine(rest < BLOCK ? paddedSubkey : wholeSubkey, 0, BLOCK);
            cipher.encipher(chained, 0);
            return number(chained, 0, CODE_BYTES);
        }

        private void combine(int[] row, int from, int n) {
            for (int i = 0; i < n; i++) {
                chained[i] ^= row[from + i];
            }
        }

        private static void moveUp(int[] block) {
            int lost = block[0] >>> 7;
            for (int i = 0; i < BLOCK; i++) {
                int next = i + 1 < BLOCK ? block[i + 1] : 0;
                block[i] = (block[i] << 1 | next >>> 7) & 255;
            }
            block[BLOCK - 1] ^= lost * 135;
        }
    }

    /** A row of bytes that goes up, or down to a device. */
    private static final class Frame {
        private static final int MOST_BYTES = 24;
        private static final int LEAST_DATA = 12;
        private static final int JOIN_DEVICE = 9;
        private static final int JOIN_NONCE = 17;
        private static final int JOIN_CODE = 19;
        private static final int JOIN_BYTES = 23;
        private static final int ACCEPT_BYTES = 17;

        private final int[] bytes = new int[MOST_BYTES];
        private int size = 0;
        private int target = UPWARDS;

        void begin(int head, int goesTo) {
            size = 0;
            target = goesTo;
            append(head, 1);
        }

        /** Appends a number as n bytes (at most four). */
        void append(int value, int n) {
            if (size + n <= MOST_BYTES) {
                putNumber(bytes, size, value, n);
                size += n;
            }
        }

        void appendZeros(int n) {
            for (int i = 0; i < n; i++) {
                append(0, 1);
            }
        }

        void copy(Frame other) {
            System.arraycopy(other.bytes, 0, bytes, 0, MOST_BYTES);
            size = other.size;
            target = other.target;
        }

        boolean holds(int i) {
            return i >= 0 && i < size;
        }

        boolean hasJoinForm() {
            if (size != JOIN_BYTES || bytes[0] != HEAD_JOIN || bytes[JOIN_DEVICE] >= DEVICES) {
                return false;
            }
            for (int i = 1; i < JOIN_NONCE; i++) {
                if (i != JOIN_DEVICE && bytes[i] != 0) {
                    return false;
                }
            }
            return true;
        }

        boolean hasAcceptForm() {
            return size == ACCEPT_BYTES && bytes[0] == HEAD_ACCEPT;
        }

        /** DATA in either direction, of a right length. */
        boolean hasDataForm() {
            int head = bytes[0];
            if (head != HEAD_UP && head != HEAD_UP_CONFIRMED && head != HEAD_DOWN) {
                return false;
            }
            int more = size - LEAST_DATA - optionCount();
            return more == 0 || more >= 2 && more <= MOST_PAYLOAD_BYTES + 1;
        }

        int address() {
            return number(bytes, 1, 4);
        }

        int control() {
            return bytes[5];
        }

        int countEnd() {
            return number(bytes, 6, 2);
        }

        int optionCount() {
            return control() & 15;
        }

        int option(int i) {
            return bytes[8 + i];
        }

        /** Where the payload begins, behind the byte 1. */
        int payloadStart() {
            return 9 + optionCount();
        }

        /** How many bytes the payload has; 0 when there is none. */
        int payloadBytes() {
            return Math.max(0, size - CODE_BYTES - payloadStart());
        }
    }

    /** The frames under way, and those that were sent last. */
    private static final class Air {
        private static final int MOST_UNDER_WAY = 12;
        private static final int MOST_REMEMBERED = 8;

        private final Frame[] underWay = new Frame[MOST_UNDER_WAY];
        private final Frame[] remembered = new Frame[MOST_REMEMBERED];
        private int size = 0;
        private int sent = 0;

        Air() {
            for (int k = 0; k < MOST_UNDER_WAY; k++) {
                underWay[k] = new Frame();
            }
            for (int j = 0; j < MOST_REMEMBERED; j++) {
                remembered[j] = new Frame();
            }
        }

        boolean holds(int k) {
            return k >= 0 && k < size;
        }

        void transmit(Frame frame) {
            remembered[sent % MOST_REMEMBERED].copy(frame);
            sent++;
            add(frame);
        }

        boolean repeat(int j) {
            if (j < 0 || j >= Math.min(sent, MOST_REMEMBERED)) {
                return false;
            }
            return add(remembered[(sent - 1 - j) % MOST_REMEMBERED]);
        }

        /** The frame that leaves is good until the next one is added: its room is used again then. */
        Frame takeOut(int k) {
            Frame leaving = underWay[k];
            size--;
            for (int i = k; i < size; i++) {
                underWay[i] = underWay[i + 1];
            }
            underWay[size] = leaving;
            return leaving;
        }

        private boolean add(Frame frame) {
            if (size == MOST_UNDER_WAY) {
                return false;
            }
            underWay[size].copy(frame);
            size++;
            return true;
        }
    }

    /** An address and two keys, as a device or the server holds them. */
    private static final class Session {
        private final Mac network = new Mac();
        private final Cipher application = new Cipher();
        private final int[] row = new int[BLOCK + Frame.MOST_BYTES];
        private final int[] key = new int[BLOCK];
        private int address = 0;

        void open(Cipher root, int serial, int newAddress, int nonce) {
            address = newAddress;
            deriveKey(root, 1, serial, nonce);
            network.takeKey(key);
            deriveKey(root, 2, serial, nonce);
            application.takeKey(key);
        }

        void begin(Frame frame, int head, int goesTo, int control, int count) {
            frame.begin(head, goesTo);
            frame.append(address, 4);
            frame.append(control, 1);
            frame.append(count, 2);
        }

        /** Appends a payload of n bytes, if n is not 0, and the code. */
        void finish(Frame frame, int direction, int count, long payload, int n) {
            if (n > 0) {
                frame.append(1, 1);
                long secret = payload ^ stream(direction, count);
                for (int i = 0; i < n; i++) {
                    frame.append((int) (secret >>> (8 * i)), 1);
                }
            }
            int before = frame.size;
            layRow(frame, before, direction, count);
            frame.append(network.codeOf(row, BLOCK + before), CODE_BYTES);
        }

        boolean isCodeRight(Frame frame, int direction, int count) {
            int before = frame.size - CODE_BYTES;
            layRow(frame, before, direction, count);
            return network.codeOf(row, BLOCK + before) == number(frame.bytes, before, CODE_BYTES);
        }

        long readPayload(Frame frame, int direction, int count) {
            int n = frame.payloadBytes();
            int from = frame.payloadStart();
            long secret = 0;
            for (int i = 0; i < n; i++) {
                secret |= (long) frame.bytes[from + i] << (8 * i);
            }
            return lowest(secret ^ stream(direction, count), n);
        }

        private void deriveKey(Cipher root, int kind, int serial, int nonce) {
            Arrays.fill(key, 0);
            key[0] = kind;
            putNumber(key, 1, serial, 3);
            key[4] = 19;
            putNumber(key, 7, nonce, 2);
            root.encipher(key, 0);
        }

        private void layRow(Frame frame, int before, int direction, int count) {
            layFirstBlock(73, direction, count, before);
            System.arraycopy(frame.bytes, 0, row, BLOCK, before);
        }

        private void layFirstBlock(int kind, int direction, int count, int last) {
            Arrays.fill(row, 0);
            row[0] = kind;
            row[5] = direction;
            putNumber(row, 6, address, 4);
            putNumber(row, 10, count, 4);
            row[15] = last;
        }

        /** The eight bytes with which a payload is combined, the first one lowest. */
        private long stream(int direction, int count) {
            layFirstBlock(1, direction, count, 1);
            application.encipher(row, 0);
            long low = number(row, 0, 4) & 0xffffffffL;
            return (long) number(row, 4, 4) << 32 | low;
        }
    }

    /** How many payloads came, and the latest four. */
    private static final class Inbox {
        private static final int KEPT = 4;

        private final long[] latest = new long[KEPT];
        private int total = 0;

        void add(long payload) {
            latest[total % KEPT] = payload;
            total++;
        }

        long get(int i) {
            return i >= 0 && i < total && i >= total - KEPT ? latest[i % KEPT] : NONE;
        }
    }

    private static final class Device {
        private static final int OUT = 0;
        private static final int JOINING = 1;
        private static final int IN = 2;
        private static final int WAITING_TIME = 3;
        private static final int MOST_TIMES_SENT = 4;

        private final int id;
        private final Mac root;
        private final Session session = new Session();
        private final Inbox inbox = new Inbox();
        private final Frame sent = new Frame();
        private final Frame opened = new Frame();
        private int state = OUT;
        private int nonce = 0;
        private int greatestSerial = 0;
        private int countUp = 0;
        private int greatestDown = NONE;
        private boolean waits = false;
        private int sentAt = 0;
        private int timesSent = 0;
        private boolean confirmed = false;
        private int acknowledged = 0;
        private int failed = 0;
        private int checkedGateways = 0;

        Device(int d, Mac rootMac) {
            id = d;
            root = rootMac;
        }

        boolean isFree() {
            return state == IN && !waits;
        }

        void writeJoin() {
            nonce++;
            state = JOINING;
            confirmed = false;
            timesSent = 0;
            sent.begin(HEAD_JOIN, UPWARDS);
            sent.appendZeros(8);
            sent.append(id, 1);
            sent.appendZeros(7);
            sent.append(nonce, 2);
            sent.append(root.codeOf(sent.bytes, sent.size), CODE_BYTES);
        }

        void writeData(long payload, int n, boolean isConfirmed, boolean check) {
            confirmed = isConfirmed;
            timesSent = 0;
            session.begin(sent, isConfirmed ? HEAD_UP_CONFIRMED : HEAD_UP, UPWARDS, check ? 1 : 0, countUp);
            if (check) {
                sent.append(OPTION_CHECK, 1);
            }
            session.finish(sent, DIRECTION_UP, countUp, payload, n);
            countUp++;
        }

        void transmit(Air air, int time) {
            air.transmit(sent);
            timesSent++;
            sentAt = time;
            waits = true;
        }

        void endWaiting(Air air, int time) {
            if (!waits || time < sentAt + WAITING_TIME) {
                return;
            }
            waits = false;
            if (state == JOINING) {
                state = OUT;
            } else if (confirmed && timesSent >= MOST_TIMES_SENT) {
                state = OUT;
                failed++;
            } else if (confirmed) {
                transmit(air, time);
            }
        }

        void take(Frame frame, int time) {
            if (!waits || time <= sentAt || time >= sentAt + WAITING_TIME) {
                return;
            }
            if (state == JOINING && frame.hasAcceptForm()) {
                takeAccept(frame);
            } else if (state == IN && frame.hasDataForm() && frame.bytes[0] == HEAD_DOWN) {
                takeData(frame);
            }
        }

        private void takeAccept(Frame frame) {
            opened.copy(frame);
            root.cipher.encipher(opened.bytes, 1);
            int serial = number(opened.bytes, 1, 3);
            if (serial <= greatestSerial || root.codeOf(opened.bytes, 13) != number(opened.bytes, 13, CODE_BYTES)) {
                return;
            }
            greatestSerial = serial;
            session.open(root.cipher, serial, number(opened.bytes, 7, 4), nonce);
            countUp = 0;
            greatestDown = NONE;
            state = IN;
            waits = false;
        }

        private void takeData(Frame frame) {
            int count = countFrom(greatestDown + 1, frame.countEnd());
            if (frame.address() != session.address || !session.isCodeRight(frame, DIRECTION_DOWN, count)) {
                return;
            }
            greatestDown = count;
            if (frame.payloadBytes() > 0) {
                inbox.add(session.readPayload(frame, DIRECTION_DOWN, count));
            }
            if (frame.optionCount() == 3 && frame.option(0) == OPTION_CHECK) {
                checkedGateways = frame.option(2);
            }
            boolean acknowledges = (frame.control() & CONTROL_ACKNOWLEDGES) != 0;
            if (confirmed && acknowledges) {
                acknowledged++;
            }
            waits = confirmed && !acknowledges;
        }
    }

    /** What the server holds for one device. */
    private static final class Account {
        private static final int MOST_QUEUED = 4;
        private static final int DUE_NOTHING = 0;
        private static final int DUE_ACCEPT = 1;
        private static final int DUE_ANSWER = 2;

        private final int id;
        private final Mac root;
        private final Session session = new Session();
        private final Inbox inbox = new Inbox();
        private final long[] queuedPayloads = new long[MOST_QUEUED];
        private final int[] queuedBytes = new int[MOST_QUEUED];
        private int queued = 0;
        private int sessions = 0;
        private int serial = 0;
        private int greatestNonce = NONE;
        private int greatestUp = NONE;
        private int nextDown = 0;
        /** A bit for each gateway. */
        private int gateways = 0;
        private int due = DUE_NOTHING;
        private boolean acknowledges = false;
        private boolean checks = false;

        Account(int d, Mac rootMac) {
            id = d;
            root = rootMac;
        }

        int enqueue(long payload, int n) {
            if (queued == MOST_QUEUED) {
                return NONE;
            }
            queuedPayloads[queued] = payload;
            queuedBytes[queued] = n;
            queued++;
            return queued;
        }

        void openSession(int newSerial, int nonce) {
            greatestNonce = nonce;
            serial = newSerial;
            sessions++;
            int address = (id + 1) | (sessions & 255) << 8 | 38 << 24;
            session.open(root.cipher, serial, address, nonce);
            greatestUp = NONE;
            nextDown = 0;
            setDue(DUE_ACCEPT, false, false);
        }

        void takeData(Frame frame, int gateway) {
            int count = countFrom(Math.max(greatestUp, 0), frame.countEnd());
            if (!session.isCodeRight(frame, DIRECTION_UP, count)) {
                return;
            }
            boolean confirmed = frame.bytes[0] == HEAD_UP_CONFIRMED;
            if (count == greatestUp) {
                gateways |= 1 << gateway;
                if (confirmed) {
                    setDue(DUE_ANSWER, true, checks);
                }
                return;
            }
            greatestUp = count;
            gateways = 1 << gateway;
            if (frame.payloadBytes() > 0) {
                inbox.add(session.readPayload(frame, DIRECTION_UP, count));
            }
            boolean asksCheck = frame.optionCount() == 1 && frame.option(0) == OPTION_CHECK;
            boolean answers = confirmed || asksCheck || queued > 0;
            setDue(answers ? DUE_ANSWER : DUE_NOTHING, confirmed, asksCheck);
        }

        void writeAccept(Frame frame) {
            frame.begin(HEAD_ACCEPT, id);
            frame.append(serial, 3);
            frame.append(19, 3);
            frame.append(session.address, 4);
            frame.append(0, 1);
            frame.append(1, 1);
            frame.append(root.codeOf(frame.bytes, frame.size), CODE_BYTES);
            root.cipher.decipher(frame.bytes, 1);
        }

        void writeAnswer(Frame frame) {
            int control = (acknowledges ? CONTROL_ACKNOWLEDGES : 0)
                + (queued > 1 ? CONTROL_MORE_QUEUED : 0)
                + (checks ? 3 : 0);
            session.begin(frame, HEAD_DOWN, id, control, nextDown);
            if (checks) {
                frame.append(OPTION_CHECK, 1);
                frame.append(10, 1);
                frame.append(Integer.bitCount(gateways), 1);
            }
            session.finish(frame, DIRECTION_DOWN, nextDown, queuedPayloads[0], queued > 0 ? queuedBytes[0] : 0);
            nextDown++;
            dequeue();
        }

        void setDue(int what, boolean acknowledging, boolean checking) {
            due = what;
            acknowledges = acknowledging;
            checks = checking;
        }

        private void dequeue() {
            if (queued == 0) {
                return;
            }
            queued--;
            for (int i = 0; i < queued; i++) {
                queuedPayloads[i] = queuedPayloads[i + 1];
                queuedBytes[i] = queuedBytes[i + 1];
            }
        }
    }

    private static final class Server {
        private final Account[] accounts = new Account[DEVICES];
        private final Frame outgoing = new Frame();
        private int serial = 0;

        Server(Mac[] roots) {
            for (int d = 0; d < DEVICES; d++) {
                accounts[d] = new Account(d, roots[d]);
            }
        }

        void takeJoin(Frame frame) {
            Account account = accounts[frame.bytes[Frame.JOIN_DEVICE]];
            int nonce = number(frame.bytes, Frame.JOIN_NONCE, 2);
            int code = number(frame.bytes, Frame.JOIN_CODE, CODE_BYTES);
            if (nonce > account.greatestNonce && account.root.codeOf(frame.bytes, Frame.JOIN_CODE) == code) {
                serial++;
                account.openSession(serial, nonce);
            }
        }

        void takeData(Frame frame, int gateway) {
            for (int d = 0; d < DEVICES; d++) {
                if (accounts[d].sessions > 0 && accounts[d].session.address == frame.address()) {
                    accounts[d].takeData(frame, gateway);
                }
            }
        }

        void sendWhatIsDue(Air air) {
            for (int d = 0; d < DEVICES; d++) {
                Account account = accounts[d];
                if (account.due == Account.DUE_ACCEPT) {
                    account.writeAccept(outgoing);
                    air.transmit(outgoing);
                } else if (account.due == Account.DUE_ANSWER) {
                    account.writeAnswer(outgoing);
                    air.transmit(outgoing);
                }
                account.setDue(Account.DUE_NOTHING, false, false);
            }
        }
    }
}
