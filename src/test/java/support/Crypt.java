import java.io.ByteArrayOutputStream;
import java.math.BigInteger;
import java.security.GeneralSecurityException;
import java.util.Arrays;
import javax.crypto.Cipher;
import javax.crypto.spec.SecretKeySpec;

/** AES of the Java library, and on it CMAC, keys and frames as the document's Terms tell them. */
final class Crypt {
    private Crypt() {
    }

    /** A row that grows. */
    static final class Row {
        private final ByteArrayOutputStream out = new ByteArrayOutputStream();

        Row add(int... bytes) {
            for (int b : bytes) {
                out.write(b);
            }
            return this;
        }

        Row number(long value, int n) {
            for (int i = 0; i < n; i++) {
                out.write((int) (value >> (8 * i)));
            }
            return this;
        }

        Row zeros(int n) {
            return number(0, n);
        }

        Row all(byte[] bytes) {
            out.writeBytes(bytes);
            return this;
        }

        byte[] done() {
            return out.toByteArray();
        }
    }

    static byte[] aes(byte[] key, byte[] block) {
        return run(Cipher.ENCRYPT_MODE, key, block);
    }

    static byte[] inverse(byte[] key, byte[] block) {
        return run(Cipher.DECRYPT_MODE, key, block);
    }

    private static byte[] run(int mode, byte[] key, byte[] block) {
        try {
            Cipher cipher = Cipher.getInstance("AES/ECB/NoPadding");
            cipher.init(mode, new SecretKeySpec(key, "AES"));
            return cipher.doFinal(block);
        } catch (GeneralSecurityException e) {
            throw new IllegalStateException(e);
        }
    }

    static byte[] mac(byte[] key, byte[] row) {
        byte[] first = doubled(aes(key, new byte[16]));
        byte[] second = doubled(first);
        boolean whole = row.length > 0 && row.length % 16 == 0;
        int blocks = Math.max(1, (row.length + 15) / 16);
        byte[] padded = Arrays.copyOf(row, 16 * blocks);
        if (!whole) {
            padded[row.length] = (byte) 128;
        }
        byte[] chained = new byte[16];
        for (int b = 0; b < blocks; b++) {
            for (int i = 0; i < 16; i++) {
                chained[i] ^= padded[16 * b + i];
                if (b == blocks - 1) {
                    chained[i] ^= whole ? first[i] : second[i];
                }
            }
            chained = aes(key, chained);
        }
        return chained;
    }

    private static byte[] doubled(byte[] block) {
        BigInteger number = new BigInteger(1, block).shiftLeft(1);
        if (number.testBit(128)) {
            number = number.clearBit(128).xor(BigInteger.valueOf(135));
        }
        byte[] full = number.toByteArray();
        byte[] answer = new byte[16];
        for (int i = 0; i < 16 && i < full.length; i++) {
            answer[15 - i] = full[full.length - 1 - i];
        }
        return answer;
    }

    static byte[] code(byte[] key, byte[] row) {
        return Arrays.copyOf(mac(key, row), 4);
    }

    static byte[] root(int seed, int d) {
        byte[] key = new byte[16];
        for (int i = 0; i < 16; i++) {
            key[i] = (byte) Math.floorMod((long) seed + 41 * d + 13 * i, 256L);
        }
        return key;
    }

    /** The network key (which 1) or the application key (which 2). */
    static byte[] sessionKey(byte[] root, int which, int serial, int nonce) {
        return aes(root, new Row().add(which).number(serial, 3).add(19, 0, 0).number(nonce, 2).zeros(7).done());
    }

    static long address(int d, int sessions) {
        return (d + 1) + 256L * (sessions % 256) + 38L * 256 * 256 * 256;
    }

    static byte[] joinFrame(byte[] root, int d, int nonce) {
        byte[] before = new Row().add(0).zeros(8).add(d).zeros(7).number(nonce, 2).done();
        return new Row().all(before).all(code(root, before)).done();
    }

    static byte[] acceptFrame(byte[] root, int serial, long address) {
        byte[] twelve = new Row().number(serial, 3).add(19, 0, 0).number(address, 4).add(0, 1).done();
        byte[] code = code(root, new Row().add(32).all(twelve).done());
        return new Row().add(32).all(inverse(root, new Row().all(twelve).all(code).done())).done();
    }

    static byte[] dataCode(byte[] network, int direction, long address, long count, byte[] before) {
        return code(network, new Row().add(73).zeros(4).add(direction).number(address, 4).number(count, 4)
            .add(0, before.length).all(before).done());
    }

    static byte[] enciphered(byte[] application, int direction, long address, long count, byte[] payload) {
        byte[] mask = aes(application, new Row().add(1).zeros(4).add(direction).number(address, 4)
            .number(count, 4).add(0, 1).done());
        byte[] answer = payload.clone();
        for (int i = 0; i < answer.length; i++) {
            answer[i] ^= mask[i];
        }
        return answer;
    }

    /** A DATA frame; the direction follows from the head, and how many options there are from control. */
    static byte[] dataFrame(byte[][] keys, int head, long address, int control, long count, int[] options,
            byte[] payload) {
        int direction = head == 96 ? 1 : 0;
        Row row = new Row().add(head).number(address, 4).add(control).number(count, 2).add(options);
        if (payload.length > 0) {
            row.add(1).all(enciphered(keys[1], direction, address, count, payload));
        }
        byte[] before = row.done();
        return new Row().all(before).all(dataCode(keys[0], direction, address, count, before)).done();
    }

    static byte[] lowest(long payload, int n) {
        return new Row().number(payload, n).done();
    }

    static byte[][] keys(byte[] root, int serial, int nonce) {
        return new byte[][] {sessionKey(root, 1, serial, nonce), sessionKey(root, 2, serial, nonce)};
    }
}
