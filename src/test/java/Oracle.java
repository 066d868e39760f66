import java.math.BigInteger;
import java.security.GeneralSecurityException;
import java.security.MessageDigest;
import java.util.Arrays;
import java.util.HashMap;
import java.util.Map;
import javax.crypto.Cipher;
import javax.crypto.spec.ChaCha20ParameterSpec;
import javax.crypto.spec.SecretKeySpec;

/** The document's arithmetic a second time, by the Java library and big integers. */
final class Oracle {
    private static final BigInteger P = BigInteger.TWO.pow(255).subtract(BigInteger.valueOf(19));
    private static final BigInteger TAG_MODULUS = BigInteger.TWO.pow(130).subtract(BigInteger.valueOf(5));
    private static final Map<String, byte[]> KNOWN = new HashMap<>();

    private Oracle() {
    }

    static byte[] hash(byte[] row) {
        try {
            return MessageDigest.getInstance("SHA-256").digest(row);
        } catch (GeneralSecurityException e) {
            throw new AssertionError(e);
        }
    }

    static byte[] stream(byte[] key, long nonce, int counter) {
        byte[] twelve = new byte[12];
        for (int i = 0; i < 8; i++) {
            twelve[4 + i] = (byte) (nonce >>> (56 - 8 * i));
        }
        try {
            Cipher cipher = Cipher.getInstance("ChaCha20");
            cipher.init(Cipher.ENCRYPT_MODE, new SecretKeySpec(key, "ChaCha20"),
                    new ChaCha20ParameterSpec(twelve, counter));
            return cipher.doFinal(new byte[64]);
        } catch (GeneralSecurityException e) {
            throw new AssertionError(e);
        }
    }

    static byte[] tag(byte[] key, byte[] row) {
        byte[] low = Arrays.copyOf(key, 16);
        for (int i : new int[] {3, 7, 11, 15}) {
            low[i] &= 15;
        }
        for (int i : new int[] {4, 8, 12}) {
            low[i] &= (byte) 252;
        }
        BigInteger r = little(low);
        BigInteger q = BigInteger.ZERO;
        for (int at = 0; at < row.length; at += 16) {
            byte[] part = Arrays.copyOfRange(row, at, Math.min(at + 16, row.length));
            q = q.add(little(Kit.join(part, Kit.bytes(1)))).multiply(r).mod(TAG_MODULUS);
        }
        return littleRow(q.add(little(Arrays.copyOfRange(key, 16, 32))), 16);
    }

    static byte[] publicRow(byte[] secret) {
        byte[] nine = new byte[32];
        nine[0] = 9;
        return multiply(secret, nine);
    }

    static byte[] multiply(byte[] k, byte[] u) {
        String name = Arrays.toString(k) + Arrays.toString(u);
        return KNOWN.computeIfAbsent(name, absent -> ladder(k, u)).clone();
    }

    private static byte[] ladder(byte[] row, byte[] point) {
        BigInteger k = little(row).clearBit(0).clearBit(1).clearBit(2).clearBit(255).setBit(254);
        BigInteger u = little(point).clearBit(255).mod(P);
        BigInteger[] v = {BigInteger.ONE, BigInteger.ZERO, u, BigInteger.ONE};
        for (int t = 254; t >= 0; t--) {
            if (k.testBit(t)) {
                v = new BigInteger[] {v[2], v[3], v[0], v[1]};
            }
            BigInteger a = v[0].add(v[1]);
            BigInteger b = v[0].subtract(v[1]);
            BigInteger c = v[2].add(v[3]);
            BigInteger d = v[2].subtract(v[3]);
            BigInteger aa = a.multiply(a).mod(P);
            BigInteger bb = b.multiply(b).mod(P);
            BigInteger e = aa.subtract(bb);
            BigInteger da = d.multiply(a).mod(P);
            BigInteger cb = c.multiply(b).mod(P);
            v[2] = da.add(cb).pow(2).mod(P);
            v[3] = da.subtract(cb).pow(2).multiply(u).mod(P);
            v[0] = aa.multiply(bb).mod(P);
            v[1] = e.multiply(aa.add(e.multiply(BigInteger.valueOf(121665)))).mod(P);
            if (k.testBit(t)) {
                v = new BigInteger[] {v[2], v[3], v[0], v[1]};
            }
        }
        return littleRow(v[0].multiply(v[1].modPow(P.subtract(BigInteger.TWO), P)).mod(P), 32);
    }

    /** A packet without keys. */
    static byte[] plain(byte[] payload) {
        int p = 4;
        while ((1 + payload.length + p + 4) % 8 != 0) {
            p++;
        }
        return framed(payload, p);
    }

    /** A packet with keys: HEAD, BODY. */
    static byte[] hidden(byte[] payload, byte[][] keys, long sequence) {
        int p = 4;
        while ((1 + payload.length + p) % 8 != 0) {
            p++;
        }
        return sealed(framed(payload, p), keys, sequence);
    }

    /** Hides any row and puts the right tag behind it. */
    static byte[] sealed(byte[] open, byte[][] keys, long sequence) {
        byte[] row = xor(open, keys, sequence);
        byte[] key = Arrays.copyOf(stream(keys[1], sequence, 0), 32);
        return Kit.join(row, tag(key, row));
    }

    /** n, p, the payload and the zeros, whether p is the right number or not. */
    static byte[] framed(byte[] payload, int p) {
        int n = 1 + payload.length + p;
        return Kit.join(Kit.bytes(0, 0, n >> 8, n, p), payload, new byte[p]);
    }

    static byte[] xor(byte[] row, byte[][] keys, long sequence) {
        byte[] mask = Arrays.copyOf(stream(keys[0], sequence, 0), 4);
        for (int counter = 1; mask.length < row.length; counter++) {
            mask = Kit.join(mask, stream(keys[1], sequence, counter));
        }
        byte[] result = row.clone();
        for (int i = 0; i < row.length; i++) {
            result[i] ^= mask[i];
        }
        return result;
    }

    static BigInteger little(byte[] row) {
        byte[] big = new byte[row.length];
        for (int i = 0; i < row.length; i++) {
            big[row.length - 1 - i] = row[i];
        }
        return new BigInteger(1, big);
    }

    static byte[] littleRow(BigInteger number, int size) {
        byte[] row = new byte[size];
        for (int i = 0; i < size; i++) {
            row[i] = number.shiftRight(8 * i).byteValue();
        }
        return row;
    }
}
