import java.math.BigInteger;
import java.util.Arrays;

/** The curve, the hash, the stream and the tag: wrap-arounds and what is made 0 or 1 (promises 4 to 7). */
public final class ArithmeticEdgeTest {
    private static final BigInteger P = BigInteger.TWO.pow(255).subtract(BigInteger.valueOf(19));
    private static final BigInteger TWO_128 = BigInteger.TWO.pow(128);
    private static final BigInteger TWO_130 = BigInteger.TWO.pow(130);
    private static final byte[] K = Kit.rising(77, 32);
    private static final byte[] U = Kit.rising(9, 32);

    public static void main(String[] args) {
        bytesAreNotNegative();
        highestBitOfU();
        uModuloP();
        bitsOfK();
        noInverse();
        fewestZeros();
        bitsOfTheSize();
        wordsOfTheNonce();
        wordsWrapAround();
        bitsOfR();
        lastBytesOfTheTag();
        tagModulo();
        tagWrapsAround();
        Kit.finish();
    }

    private static byte[] multiply(byte[] k, byte[] u) {
        SealedWire wire = new SealedWire();
        Kit.type(wire, Kit.join(k, u));
        wire.multiply();
        return Kit.out(wire, 32);
    }

    private static byte[] hash(byte[] row) {
        SealedWire wire = new SealedWire();
        Kit.type(wire, row);
        wire.hash();
        return Kit.out(wire, 32);
    }

    private static byte[] stream(byte[] key, long nonce, int counter) {
        SealedWire wire = new SealedWire();
        Kit.type(wire, key);
        wire.stream(nonce, counter);
        return Kit.out(wire, 64);
    }

    private static byte[] tag(byte[] key, byte[] row) {
        SealedWire wire = new SealedWire();
        Kit.type(wire, Kit.join(key, row));
        wire.tag();
        return Kit.out(wire, 16);
    }

    private static byte[] little(BigInteger number) {
        return Oracle.littleRow(number, 32);
    }

    private static byte[] little(long number) {
        return little(BigInteger.valueOf(number));
    }

    private static byte[] flipped(byte[] row, int bit) {
        byte[] other = row.clone();
        other[bit / 8] ^= (byte) (1 << bit % 8);
        return other;
    }

    private static byte[] full(int count) {
        byte[] row = new byte[count];
        Arrays.fill(row, (byte) 255);
        return row;
    }

    private static void bytesAreNotNegative() {
        Kit.sentence("BYTES in rows are numbers 0 .. 255");
        SealedWire wire = new SealedWire();
        Kit.type(wire, full(64));
        wire.multiply();
        inBounds("multiply", wire, 32);
        wire.hash();
        inBounds("hash", wire, 32);
        Kit.type(wire, full(32));
        wire.stream(Long.MAX_VALUE, Integer.MAX_VALUE);
        inBounds("stream", wire, 64);
        Kit.type(wire, full(48));
        wire.tag();
        inBounds("tag", wire, 16);
        Kit.send(wire, 0, Kit.join(Kit.bytes(94), full(3)));
        Kit.same("packet", wire.packet(1, 0, 6), 255);
        wire.come(1);
        Kit.same("got", wire.got(1, 2), 255);
    }

    private static void inBounds(String what, SealedWire wire, int size) {
        boolean high = false;
        for (int i = 0; i < size; i++) {
            int value = wire.out(i);
            Kit.same(what + ": byte " + i, value >= 0 && value <= 255, true);
            high = high || value > 127;
        }
        Kit.same(what + ": some byte is above 127", high, true);
    }

    private static void highestBitOfU() {
        Kit.sentence("u is a little number without its highest bit");
        Kit.same("bit 255", multiply(K, flipped(U, 255)), multiply(K, U));
        Kit.same("bit 255 of 0", multiply(K, flipped(new byte[32], 255)), new byte[32]);
        Kit.same("bit 254 counts", multiply(K, flipped(U, 254)), Oracle.multiply(K, flipped(U, 254)));
        differ("bit 254", multiply(K, flipped(U, 254)), multiply(K, U));
        differ("bit 0", multiply(K, flipped(U, 0)), multiply(K, U));
    }

    private static void uModuloP() {
        Kit.sentence("u is a little number without its highest bit, modulo P");
        for (int i = 0; i <= 18; i++) {
            byte[] beyond = little(P.add(BigInteger.valueOf(i)));
            Kit.same("P + " + i + " is " + i, multiply(K, beyond), multiply(K, little(i)));
            Kit.same("with the highest bit", multiply(K, flipped(beyond, 255)), multiply(K, little(i)));
        }
        for (int i = 1; i <= 20; i++) {
            byte[] below = little(P.subtract(BigInteger.valueOf(i)));
            Kit.same("P - " + i, multiply(K, below), Oracle.multiply(K, below));
        }
        differ("P - 2 is not 2", multiply(K, little(P.subtract(BigInteger.TWO))), multiply(K, little(2)));
    }

    private static void bitsOfK() {
        Kit.sentence("k is a little number in which the bits 0, 1, 2 and 255 are made 0 and bit 254 is made 1");
        byte[] due = Oracle.multiply(K, U);
        for (int bit = 0; bit < 256; bit++) {
            boolean fixed = bit <= 2 || bit >= 254;
            if (fixed) {
                Kit.same("bit " + bit, multiply(flipped(K, bit), U), due);
            } else {
                differ("bit " + bit, multiply(flipped(K, bit), U), due);
            }
        }
        Kit.same("0 is 2^254", multiply(new byte[32], U), multiply(little(BigInteger.ONE.shiftLeft(254)), U));
        Kit.same("all bits", multiply(full(32), U), Oracle.multiply(full(32), U));
    }

    /** z2 is 0 at the end for the points of low order: then the result is 0. */
    private static void noInverse() {
        Kit.sentence("The result is x2 * z2^(P - 2), modulo P");
        byte[][] low = {
            little(0), little(1), little(P.subtract(BigInteger.ONE)), little(P), little(P.add(BigInteger.ONE)),
            Kit.hex("e0eb7a7c3b41b8ae1656e3faf19fc46ada098deb9c32b1fd866205165f49b800"),
            Kit.hex("5f9c95bca3508c24b1d0b1559c83ef5b04445cc4581c8e86d8224eddd09f1157"),
        };
        for (int i = 0; i < low.length; i++) {
            Kit.same("point of low order " + i, multiply(K, low[i]), new byte[32]);
            Kit.same("by 0, point " + i, multiply(new byte[32], low[i]), new byte[32]);
        }
        differ("2 is not of low order", multiply(K, little(2)), new byte[32]);
    }

    private static void fewestZeros() {
        Kit.sentence("so that all are a multiple of 64 bytes with as few zeros as can be");
        for (int blocks = 1; blocks <= 9; blocks++) {
            // With 55 bytes in the last block there is no zero, with 56 there is a block more.
            for (int size : new int[] {64 * blocks - 10, 64 * blocks - 9, 64 * blocks - 8, 64 * blocks - 1,
                    64 * blocks, 64 * blocks + 1}) {
                byte[] row = Kit.rising(size, size);
                Kit.same("hash of " + size, hash(row), Oracle.hash(row));
            }
        }
        Kit.same("hash of nothing", hash(new byte[0]), Oracle.hash(new byte[0]));
        Kit.same("hash of 600", hash(full(600)), Oracle.hash(full(600)));
    }

    private static void bitsOfTheSize() {
        Kit.sentence("how many bits it has as a big number of 8 bytes");
        for (int size : new int[] {1, 31, 32, 33, 511, 512, 513}) {
            Kit.same("hash of " + size + " zeros", hash(new byte[size]), Oracle.hash(new byte[size]));
        }
    }

    private static void wordsOfTheNonce() {
        Kit.sentence("the two little words of the 8 bytes that n is as a big number");
        for (int bit = 0; bit < 63; bit++) {
            Kit.same("nonce 2^" + bit, stream(K, 1L << bit, 0), Oracle.stream(K, 1L << bit, 0));
        }
        for (int bit = 0; bit < 31; bit++) {
            Kit.same("counter 2^" + bit, stream(K, 0, 1 << bit), Oracle.stream(K, 0, 1 << bit));
        }
    }

    private static void wordsWrapAround() {
        Kit.sentence("Then the words as they were at first are added");
        Kit.same("all bits", stream(full(32), Long.MAX_VALUE, Integer.MAX_VALUE),
                Oracle.stream(full(32), Long.MAX_VALUE, Integer.MAX_VALUE));
        Kit.same("no bits", stream(new byte[32], 0, 0), Oracle.stream(new byte[32], 0, 0));
    }

    private static void bitsOfR() {
        Kit.sentence("the upper four bits of bytes 3, 7, 11, 15 and the lower two of bytes 4, 8, 12 are made 0");
        byte[] row = Kit.rising(1, 16);
        byte[] due = Oracle.tag(K, row);
        for (int bit = 0; bit < 128; bit++) {
            int at = bit / 8;
            boolean upper = at % 4 == 3 && bit % 8 >= 4;
            boolean lower = at % 4 == 0 && at > 0 && bit % 8 < 2;
            if (upper || lower) {
                Kit.same("bit " + bit % 8 + " of byte " + at, tag(flipped(K, bit), row), due);
            } else {
                differ("bit " + bit % 8 + " of byte " + at, tag(flipped(K, bit), row), due);
            }
        }
        for (int bit = 128; bit < 256; bit++) {
            differ("bit " + bit % 8 + " of byte " + bit / 8, tag(flipped(K, bit), row), due);
        }
    }

    private static void lastBytesOfTheTag() {
        Kit.sentence("for each 16 bytes (the last ones may be less)");
        for (int size : new int[] {0, 1, 2, 15, 16, 17, 31, 32, 33, 559, 560, 561, 567, 568}) {
            Kit.same("zeros " + size, tag(K, new byte[size]), Oracle.tag(K, new byte[size]));
            Kit.same("all bits " + size, tag(K, full(size)), Oracle.tag(K, full(size)));
        }
        differ("a zero more counts", tag(K, new byte[15]), tag(K, new byte[16]));
        differ("and behind 16", tag(K, new byte[16]), tag(K, new byte[17]));
    }

    /** With r = 1 and s = 0 the tag is the sum of the two numbers of 129 bits each, modulo 2^130 - 5. */
    private static void tagModulo() {
        Kit.sentence("modulo 2^130 - 5");
        byte[] one = Kit.join(Kit.bytes(1), new byte[31]);
        for (int i = -8; i <= -2; i++) {
            BigInteger sum = TWO_130.add(BigInteger.valueOf(i));
            BigInteger both = sum.subtract(BigInteger.TWO.pow(129));
            BigInteger half = both.shiftRight(1);
            byte[] row = Kit.join(Oracle.littleRow(half, 16), Oracle.littleRow(both.subtract(half), 16));
            BigInteger due = i < -5 ? sum : BigInteger.valueOf(i + 5);
            Kit.same("2^130 " + i, tag(one, row), Oracle.littleRow(due.mod(TWO_128), 16));
        }
    }

    /** With r = 0 the tag is s alone; with r = 1 the one number of the row, 2^128 and more, and s. */
    private static void tagWrapsAround() {
        Kit.sentence("The tag is q + s modulo 2^128");
        byte[] r = Kit.join(Kit.bytes(1), new byte[15]);
        Kit.same("2^128 - 1", tag(Kit.join(r, full(16)), new byte[16]), full(16));
        byte[] number = Kit.join(Kit.bytes(1), new byte[15]);
        Kit.same("2^128", tag(Kit.join(r, full(16)), number), new byte[16]);
        number[0] = 2;
        Kit.same("2^128 + 1", tag(Kit.join(r, full(16)), number), Kit.join(Kit.bytes(1), new byte[15]));
        Kit.same("r = 0", tag(Kit.join(new byte[16], full(16)), full(40)), full(16));
    }

    private static void differ(String what, byte[] one, byte[] other) {
        Kit.same(what + " makes a difference", Arrays.equals(one, other), false);
    }
}
