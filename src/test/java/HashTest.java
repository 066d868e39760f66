import java.util.Random;

/** Promise 5: hash. */
public final class HashTest {
    public static void main(String[] args) {
        SealedWire empty = new SealedWire();
        empty.hash();
        Kit.same("the hash of nothing", Kit.out(empty, 32),
                Kit.hex("e3b0c44298fc1c149afbf4c8996fb92427ae41e4649b934ca495991b7852b855"));
        Random random = new Random(2);
        for (int size = 0; size <= 600; size++) {
            byte[] row = new byte[size];
            random.nextBytes(row);
            SealedWire wire = new SealedWire();
            Kit.type(wire, row);
            wire.hash();
            Kit.same("the hash of " + size, Kit.out(wire, 32), Oracle.hash(row));
        }
        manyOfOneObject(random);
        Kit.finish();
    }

    private static void manyOfOneObject(Random random) {
        SealedWire wire = new SealedWire();
        for (int i = 0; i < 9; i++) {
            byte[] row = new byte[i * 13 % 70];
            random.nextBytes(row);
            Kit.type(wire, row);
            wire.hash();
            Kit.same("hash " + i + " of one object", Kit.out(wire, 32), Oracle.hash(row));
        }
    }
}
