import java.util.Random;

/** Promise 6: stream. */
public final class StreamTest {
    private static final long[] NONCES = {
        0, 1, 255, 256, 0x0102030405060708L, 0xFFFFFFFFL, 0x100000000L, Long.MAX_VALUE,
    };
    private static final int[] COUNTERS = {0, 1, 2, 0x01020304, Integer.MAX_VALUE};

    public static void main(String[] args) {
        zeroKey();
        Random random = new Random(3);
        for (long nonce : NONCES) {
            for (int counter : COUNTERS) {
                byte[] key = new byte[32];
                random.nextBytes(key);
                SealedWire wire = new SealedWire();
                Kit.type(wire, key);
                wire.stream(nonce, counter);
                Kit.same("stream " + nonce + " " + counter, Kit.out(wire, 64), Oracle.stream(key, nonce, counter));
            }
        }
        wrong();
        Kit.finish();
    }

    /** The well-known first block of a key, a nonce and a counter of zeros. */
    private static void zeroKey() {
        SealedWire wire = new SealedWire();
        Kit.type(wire, new byte[32]);
        wire.stream(0, 0);
        Kit.same("zeros", Kit.out(wire, 64), Kit.hex(
                "76b8e0ada0f13d90405d6ae55386bd28bdd219b8a08ded1aa836efcc8b770dc7"
                + "da41597c5157488d7724e03fb8d84a376a43b8f41518a11cc387b669b2ee6586"));
    }

    private static void wrong() {
        for (int n : new int[] {0, 31, 33, 64}) {
            SealedWire wire = new SealedWire();
            Kit.type(wire, new byte[n]);
            Kit.thrown("stream of " + n, () -> wire.stream(0, 0), Kit.ARGUMENT);
        }
        for (long nonce : new long[] {-1, Long.MIN_VALUE}) {
            SealedWire wire = new SealedWire();
            Kit.type(wire, new byte[32]);
            Kit.thrown("stream of nonce " + nonce, () -> wire.stream(nonce, 0), Kit.ARGUMENT);
        }
        for (int counter : new int[] {-1, Integer.MIN_VALUE}) {
            SealedWire wire = new SealedWire();
            Kit.type(wire, new byte[32]);
            Kit.thrown("stream of counter " + counter, () -> wire.stream(0, counter), Kit.ARGUMENT);
        }
    }
}
