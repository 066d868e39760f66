import java.math.BigInteger;
import java.util.Random;

/** Promise 4: multiply. */
public final class CurveTest {
    private static final BigInteger P = BigInteger.TWO.pow(255).subtract(BigInteger.valueOf(19));

    public static void main(String[] args) {
        wellKnown();
        edges();
        random();
        rareCarries();
        chain();
        wrongSizes();
        Kit.finish();
    }

    private static byte[] multiply(byte[] k, byte[] u) {
        SealedWire wire = new SealedWire();
        Kit.type(wire, Kit.join(k, u));
        wire.multiply();
        return Kit.out(wire, 32);
    }

    /** From RFC 7748, 5.2. */
    private static void wellKnown() {
        Kit.same("first vector",
                multiply(Kit.hex("a546e36bf0527c9d3b16154b82465edd62144c0ac1fc5a18506a2244ba449ac4"),
                        Kit.hex("e6db6867583030db3594c1a424b15f7c726624ec26b3353b10a903a6d0ab1c4c")),
                Kit.hex("c3da55379de9c6908e94ea4df28d084f32eccf03491c71f754b4075577a28552"));
        Kit.same("second vector, with the highest bit of u",
                multiply(Kit.hex("4b66e9d4d1b4673c5ad22691957d6af5c11b6421e0ea01d42ca4169e7918ba0d"),
                        Kit.hex("e5210f12786811d3f4b7959d0538ae2c31dbe7106fc03c3efc4cd549c715a493")),
                Kit.hex("95cbde9476e8907d7aade45cb4b873f88b595a68799fa152e6f8f7647aac7957"));
    }

    /** Numbers round 0, P and 2^255, with and without the highest bit, by scalars whose fixed bits differ. */
    private static void edges() {
        byte[][] scalars = {
            new byte[32], Kit.rising(1, 32), Kit.hex("ff".repeat(32)), Kit.hex("07" + "00".repeat(30) + "80"),
        };
        for (byte[] k : scalars) {
            for (int i = -3; i <= 21; i++) {
                edge(k, P.add(BigInteger.valueOf(i)));
            }
            for (int i = 0; i < 4; i++) {
                edge(k, BigInteger.valueOf(i));
                edge(k, BigInteger.ONE.shiftLeft(26 * i + 26));
                edge(k, BigInteger.ONE.shiftLeft(26 * i + 26).subtract(BigInteger.ONE));
            }
        }
    }

    private static void edge(byte[] k, BigInteger u) {
        byte[] row = Oracle.littleRow(u.mod(BigInteger.TWO.pow(256)), 32);
        Kit.same("multiply by " + u, multiply(k, row), Oracle.multiply(k, row));
        row[31] ^= (byte) 128;
        Kit.same("multiply by " + u + " and the highest bit", multiply(k, row), Oracle.multiply(k, row));
    }

    private static void random() {
        Random random = new Random(1);
        for (int i = 0; i < 300; i++) {
            byte[] k = new byte[32];
            byte[] u = new byte[32];
            random.nextBytes(k);
            random.nextBytes(u);
            Kit.same("random " + i, multiply(k, u), Oracle.multiply(k, u));
        }
    }

    /** Results that are brought below P only when a carry out of their lowest 26 bits is followed up. */
    private static void rareCarries() {
        Kit.same("first carry",
                multiply(Kit.hex("bbea457286d19ac0051bcca1d4238c18443c7e202d2a939ba25fdf8d1cdcf70d"),
                        Kit.hex("59aeb47b0296b98ea644b56b68830b50608e74d7ef2030b69618bc83c9952080")),
                Kit.hex("2f0000181dd750c6f8d6092d5e7f15fbcd33f1ee6c5de86825ab1b90ee845937"));
        Kit.same("second carry",
                multiply(Kit.hex("e642f9fdc26ea7a890c0173c71dc474b44c1b548dde5187b23bab48d8cca6996"),
                        Kit.hex("d738af95a0cfdfffefacc309eefaa11353a20ab367fa336b502fa9db740f452e")),
                Kit.hex("25000060e25d0854ea2528d3d83df625daf07bd83af052c4c38e5a085b937279"));
    }

    /** RFC 7748, 5.2: a thousand times the result is the next scalar, the scalar the next point. */
    private static void chain() {
        byte[] k = new byte[32];
        k[0] = 9;
        byte[] u = k.clone();
        for (int i = 0; i < 1000; i++) {
            byte[] next = multiply(k, u);
            u = k;
            k = next;
        }
        Kit.same("after 1000", k, Kit.hex("684cf59ba83309552800ef566f2f4d3c1c3887c49360e3875f2eb94d99532c51"));
    }

    private static void wrongSizes() {
        for (int n : new int[] {0, 1, 32, 63, 65, 600}) {
            SealedWire wire = new SealedWire();
            Kit.type(wire, new byte[n]);
            Kit.thrown("multiply of " + n, wire::multiply, Kit.ARGUMENT);
        }
    }
}
