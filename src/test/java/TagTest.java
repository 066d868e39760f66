import java.math.BigInteger;
import java.util.Arrays;
import java.util.Random;

/** Promise 7: tag. */
public final class TagTest {
    public static void main(String[] args) {
        wellKnown();
        everySize();
        edges();
        sumsNearTheModulus();
        for (int n : new int[] {0, 1, 31}) {
            SealedWire wire = new SealedWire();
            Kit.type(wire, new byte[n]);
            Kit.thrown("tag of " + n, wire::tag, Kit.ARGUMENT);
        }
        Kit.finish();
    }

    private static void sumsNearTheModulus() {
        BigInteger top = BigInteger.TWO.pow(130);
        for (int i = 2; i < 40; i++) {
            sumIs(top.subtract(BigInteger.valueOf(i)));
        }
        for (int bit = 3; bit < 128; bit++) {
            sumIs(top.subtract(BigInteger.TWO).subtract(BigInteger.ONE.shiftLeft(bit)));
        }
    }

    private static byte[] tag(byte[] key, byte[] row) {
        SealedWire wire = new SealedWire();
        Kit.type(wire, Kit.join(key, row));
        wire.tag();
        return Kit.out(wire, 16);
    }

    private static void check(String what, byte[] key, byte[] row) {
        Kit.same(what, tag(key, row), Oracle.tag(key, row));
    }

    /** From RFC 8439, 2.5.2. */
    private static void wellKnown() {
        byte[] text = new byte[34];
        String message = "Cryptographic Forum Research Group";
        for (int i = 0; i < text.length; i++) {
            text[i] = (byte) message.charAt(i);
        }
        Kit.same("the known tag",
                tag(Kit.hex("85d6be7857556d337f4452fe42d506a80103808afb0db2fd4abff6af4149f51b"), text),
                Kit.hex("a8061dc1305136c6c22b8baf0c0127a9"));
    }

    private static void everySize() {
        Random random = new Random(4);
        for (int size = 0; size <= 568; size++) {
            byte[] key = new byte[32];
            byte[] row = new byte[size];
            random.nextBytes(key);
            random.nextBytes(row);
            check("size " + size, key, row);
        }
    }

    /** Sums round 2^130 - 5 and 2^128, and the largest numbers of all. */
    private static void edges() {
        byte[] full = new byte[32];
        Arrays.fill(full, (byte) 255);
        byte[] most = new byte[568];
        Arrays.fill(most, (byte) 255);
        check("all bits", full, most);
        check("all bits of the row", Kit.join(Kit.bytes(1), new byte[31]), most);
        for (int factor = 0; factor <= 5; factor++) {
            for (int s = 0; s < 2; s++) {
                byte[] key = new byte[32];
                key[0] = (byte) factor;
                Arrays.fill(key, 16, 32, (byte) (s * 255));
                for (int i = -12; i <= 12; i++) {
                    byte[] low = Oracle.littleRow(BigInteger.TWO.pow(128).add(BigInteger.valueOf(i)), 16);
                    check("near 2^128", key, low);
                    check("two near 2^128", key, Kit.join(most(16), low));
                    check("three near 2^128", key, Kit.join(most(32), low));
                }
            }
        }
    }

    /** With the factor 1 the sum of two numbers comes out: just what is asked for, below 2^130. */
    private static void sumIs(BigInteger sum) {
        BigInteger both = sum.subtract(BigInteger.TWO.pow(129));
        BigInteger one = both.shiftRight(1);
        byte[] row = Kit.join(Oracle.littleRow(one, 16), Oracle.littleRow(both.subtract(one), 16));
        check("the sum " + sum, Kit.join(Kit.bytes(1), new byte[31]), row);
    }

    private static byte[] most(int count) {
        byte[] row = new byte[count];
        Arrays.fill(row, (byte) 255);
        return row;
    }
}
