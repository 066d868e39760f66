import java.math.BigInteger;
import java.util.Random;

/**
 * The hash and the stream of the terms, written down from the document's words alone, constants too, and not taken
 * from the Java library (promises 5 and 6); the curve and the tag are written down so in Oracle.
 */
public final class WordsTest {
    private static final int[] PRIMES = primes(64);

    public static void main(String[] args) {
        theHash();
        theStream();
        theCurve();
        theTag();
        Kit.finish();
    }

    private static int[] primes(int count) {
        int[] found = new int[count];
        int size = 0;
        for (int number = 2; size < count; number++) {
            boolean prime = true;
            for (int i = 0; i < size; i++) {
                prime = prime && number % found[i] != 0;
            }
            if (prime) {
                found[size++] = number;
            }
        }
        return found;
    }

    private static int bitsOfTheSquareRoot(int number) {
        return BigInteger.valueOf(number).shiftLeft(64).sqrt().intValue();
    }

    private static int bitsOfTheCubeRoot(int number) {
        BigInteger cube = BigInteger.valueOf(number).shiftLeft(96);
        BigInteger root = BigInteger.ZERO;
        for (int bit = 40; bit >= 0; bit--) {
            if (root.setBit(bit).pow(3).compareTo(cube) <= 0) {
                root = root.setBit(bit);
            }
        }
        return root.intValue();
    }

    private static int turnedRight(int word, int by) {
        return word >>> by | word << (32 - by);
    }

    private static int turnedLeft(int word, int by) {
        return word << by | word >>> (32 - by);
    }

    private static byte[] behind(byte[] row) {
        int zeros = 0;
        while ((row.length + 1 + zeros + 8) % 64 != 0) {
            zeros++;
        }
        byte[] bits = new byte[8];
        for (int i = 0; i < 8; i++) {
            bits[i] = (byte) (8L * row.length >>> (56 - 8 * i));
        }
        return Kit.join(row, Kit.bytes(128), new byte[zeros], bits);
    }

    private static byte[] hash(byte[] row) {
        byte[] all = behind(row);
        int[] sums = new int[8];
        for (int i = 0; i < 8; i++) {
            sums[i] = bitsOfTheSquareRoot(PRIMES[i]);
        }
        for (int from = 0; from < all.length; from += 64) {
            mix(sums, words(all, from));
        }
        byte[] result = new byte[32];
        for (int i = 0; i < 32; i++) {
            result[i] = (byte) (sums[i / 4] >>> (24 - 8 * (i % 4)));
        }
        return result;
    }

    private static int[] words(byte[] all, int from) {
        int[] w = new int[64];
        for (int t = 0; t < 16; t++) {
            for (int i = 0; i < 4; i++) {
                w[t] = w[t] << 8 | all[from + 4 * t + i] & 255;
            }
        }
        for (int t = 16; t < 64; t++) {
            int s0 = turnedRight(w[t - 15], 7) ^ turnedRight(w[t - 15], 18) ^ w[t - 15] >>> 3;
            int s1 = turnedRight(w[t - 2], 17) ^ turnedRight(w[t - 2], 19) ^ w[t - 2] >>> 10;
            w[t] = w[t - 16] + s0 + w[t - 7] + s1;
        }
        return w;
    }

    private static void mix(int[] sums, int[] w) {
        int[] v = sums.clone();
        for (int t = 0; t < 64; t++) {
            int s1 = turnedRight(v[4], 6) ^ turnedRight(v[4], 11) ^ turnedRight(v[4], 25);
            int t1 = v[7] + s1 + (v[4] & v[5] ^ ~v[4] & v[6]) + bitsOfTheCubeRoot(PRIMES[t]) + w[t];
            int s0 = turnedRight(v[0], 2) ^ turnedRight(v[0], 13) ^ turnedRight(v[0], 22);
            int t2 = s0 + (v[0] & v[1] ^ v[0] & v[2] ^ v[1] & v[2]);
            v = new int[] {t1 + t2, v[0], v[1], v[2], v[3] + t1, v[4], v[5], v[6]};
        }
        for (int i = 0; i < 8; i++) {
            sums[i] += v[i];
        }
    }

    private static void theHash() {
        Kit.sentence("Eight words h0 .. h7 are at first the first 32 bits behind the point of the square roots "
                + "of the first eight primes");
        Random random = new Random(11);
        for (int size : new int[] {0, 1, 3, 54, 55, 56, 63, 64, 65, 119, 120, 200, 600}) {
            byte[] row = new byte[size];
            random.nextBytes(row);
            SealedWire wire = new SealedWire();
            Kit.type(wire, row);
            wire.hash();
            Kit.same("the hash of " + size, Kit.out(wire, 32), hash(row));
            Kit.same("the library's of " + size, Oracle.hash(row), hash(row));
        }
    }

    private static int littleWord(byte[] row, int from) {
        return Oracle.little(java.util.Arrays.copyOfRange(row, from, from + 4)).intValue();
    }

    private static void quarter(int[] v, int a, int b, int c, int d) {
        v[a] += v[b];
        v[d] = turnedLeft(v[d] ^ v[a], 16);
        v[c] += v[d];
        v[b] = turnedLeft(v[b] ^ v[c], 12);
        v[a] += v[b];
        v[d] = turnedLeft(v[d] ^ v[a], 8);
        v[c] += v[d];
        v[b] = turnedLeft(v[b] ^ v[c], 7);
    }

    private static int[] firstWords(byte[] key, long nonce, int counter) {
        int[] first = new int[16];
        first[0] = 0x61707865;
        first[1] = 0x3320646e;
        first[2] = 0x79622d32;
        first[3] = 0x6b206574;
        for (int i = 0; i < 8; i++) {
            first[4 + i] = littleWord(key, 4 * i);
        }
        byte[] big = new byte[8];
        for (int i = 0; i < 8; i++) {
            big[i] = (byte) (nonce >>> (56 - 8 * i));
        }
        first[12] = counter;
        first[14] = littleWord(big, 0);
        first[15] = littleWord(big, 4);
        return first;
    }

    private static byte[] stream(byte[] key, long nonce, int counter) {
        int[] first = firstWords(key, nonce, counter);
        int[] v = first.clone();
        for (int i = 0; i < 10; i++) {
            quarter(v, 0, 4, 8, 12);
            quarter(v, 1, 5, 9, 13);
            quarter(v, 2, 6, 10, 14);
            quarter(v, 3, 7, 11, 15);
            quarter(v, 0, 5, 10, 15);
            quarter(v, 1, 6, 11, 12);
            quarter(v, 2, 7, 8, 13);
            quarter(v, 3, 4, 9, 14);
        }
        byte[] result = new byte[64];
        for (int i = 0; i < 64; i++) {
            result[i] = (byte) (v[i / 4] + first[i / 4] >>> (8 * (i % 4)));
        }
        return result;
    }

    private static void theStream() {
        Kit.sentence("Ten times: quarters of (0 4 8 12), (1 5 9 13), (2 6 10 14), (3 7 11 15), (0 5 10 15)");
        Random random = new Random(12);
        for (int i = 0; i < 40; i++) {
            byte[] key = new byte[32];
            random.nextBytes(key);
            long nonce = random.nextLong() >>> 1 + random.nextInt(63);
            int counter = random.nextInt() >>> 1 + random.nextInt(31);
            SealedWire wire = new SealedWire();
            Kit.type(wire, key);
            wire.stream(nonce, counter);
            String what = "stream of " + nonce + ", " + counter;
            Kit.same(what, Kit.out(wire, 64), stream(key, nonce, counter));
            Kit.same("the library's " + what, Oracle.stream(key, nonce, counter), stream(key, nonce, counter));
        }
    }

    private static void theCurve() {
        Kit.sentence("The tape is taken, its first 32 bytes as k, the others as u: MULTIPLY comes out");
        byte[] low = Kit.rising(8, 32);
        byte[] high = Kit.rising(72, 32);
        SealedWire wire = new SealedWire();
        Kit.type(wire, Kit.join(low, high));
        wire.multiply();
        Kit.same("first k, then u", Kit.out(wire, 32), Oracle.multiply(low, high));
        Kit.type(wire, Kit.join(high, low));
        wire.multiply();
        Kit.same("the other way round", Kit.out(wire, 32), Oracle.multiply(high, low));
    }

    private static void theTag() {
        Kit.sentence("The tape is taken: the TAG of all but its first 32 bytes by these comes out");
        byte[] key = Kit.rising(140, 32);
        byte[] row = Kit.rising(3, 37);
        SealedWire wire = new SealedWire();
        Kit.type(wire, Kit.join(key, row));
        wire.tag();
        Kit.same("first the key, then the row", Kit.out(wire, 16), Oracle.tag(key, row));
    }
}
