import java.util.Arrays;

/** Wires with known secrets, and what follows from these by the oracle. */
final class Scene {
    static final int CLIENT = 0;
    static final int SERVER = 1;

    static final byte[] CLIENT_SECRET = Kit.rising(1, 32);
    static final byte[] SERVER_SECRET = Kit.rising(101, 32);
    static final byte[] HOST_SECRET = Kit.rising(200, 32);
    static final byte[] HOST_ROW = Oracle.publicRow(HOST_SECRET);
    static final byte[] CLIENT_COOKIE = Kit.rising(10, 8);
    static final byte[] SERVER_COOKIE = Kit.rising(60, 8);
    static final byte[] CLIENT_INIT = Kit.join(Kit.bytes(20), CLIENT_COOKIE);
    static final byte[] SERVER_INIT = Kit.join(Kit.bytes(20), SERVER_COOKIE);

    static final byte[] END = Kit.bytes(1);
    static final byte[] IGNORE = Kit.bytes(2, 9, 9);
    static final byte[] DATA = Kit.bytes(94, 5, 6, 7);
    static final byte[] NEW = Kit.bytes(21);

    private Scene() {
    }

    /** All is set, and nothing sent. */
    static SealedWire ready() {
        SealedWire wire = new SealedWire();
        Kit.set(wire, 0, CLIENT_SECRET);
        Kit.set(wire, 1, SERVER_SECRET);
        Kit.set(wire, 2, HOST_SECRET);
        Kit.set(wire, 3, HOST_ROW);
        Kit.set(wire, 4, CLIENT_COOKIE);
        Kit.set(wire, 5, SERVER_COOKIE);
        return wire;
    }

    /** One exchange is over at both ends: each has sent and got three packets (the server: REPLY and NEW too). */
    static SealedWire agreed() {
        SealedWire wire = ready();
        wire.begin(CLIENT);
        Kit.same("packets of an exchange", wire.run(50), 6);
        return wire;
    }

    static byte[] shared(byte[] clientSecret, byte[] serverSecret) {
        return Oracle.multiply(clientSecret, Oracle.publicRow(serverSecret));
    }

    static byte[] h(byte[] clientInit, byte[] serverInit, byte[] clientSecret, byte[] serverSecret) {
        return Oracle.hash(Kit.join(clientInit, serverInit, HOST_ROW, Oracle.publicRow(clientSecret),
                Oracle.publicRow(serverSecret), shared(clientSecret, serverSecret)));
    }

    static byte[] firstH() {
        return h(CLIENT_INIT, SERVER_INIT, CLIENT_SECRET, SERVER_SECRET);
    }

    /** The payload of the first exchange's REPLY. */
    static byte[] reply() {
        byte[] mixed = Oracle.multiply(HOST_SECRET, Oracle.publicRow(CLIENT_SECRET));
        return Kit.join(Kit.bytes(31), HOST_ROW, Oracle.publicRow(SERVER_SECRET),
                Oracle.hash(Kit.join(mixed, firstH())));
    }

    /** HEAD and BODY of one end's packets. */
    static byte[][] keys(int end, byte[] shared, byte[] h, byte[] session) {
        byte[][] keys = new byte[2][];
        for (int i = 0; i < 2; i++) {
            keys[i] = Oracle.hash(Kit.join(shared, h, Kit.bytes(65 + 2 * end + i), session));
        }
        return keys;
    }

    static byte[][] firstKeys(int end) {
        return keys(end, shared(CLIENT_SECRET, SERVER_SECRET), firstH(), firstH());
    }

    /** Puts another packet of the same size in the place of the k-th one to an end. */
    static void replace(SealedWire wire, int end, int k, byte[] packet) {
        Kit.same("the size of what is replaced", wire.packet(end, k, -1), packet.length);
        for (int i = 0; i < packet.length; i++) {
            wire.damage(end, k, i, wire.packet(end, k, i) ^ packet[i] & 255);
        }
    }

    /** Makes of the k-th packet to an end, which is without keys, one of another payload of the same size. */
    static void forge(SealedWire wire, int end, int k, byte[] payload) {
        for (int i = 0; i < payload.length; i++) {
            wire.damage(end, k, 5 + i, wire.packet(end, k, 5 + i) ^ payload[i] & 255);
        }
    }

    /** Sends a payload that send refuses, by way of an IGNORE that is damaged: without keys alone. */
    static void smuggle(SealedWire wire, int from, byte[] payload) {
        byte[] harmless = payload.clone();
        harmless[0] = 2;
        Kit.send(wire, from, harmless);
        forge(wire, 1 - from, wire.about(1 - from, 5) - 1, payload);
    }

    static byte[] start(byte[] row, int count) {
        return Arrays.copyOf(row, count);
    }
}
