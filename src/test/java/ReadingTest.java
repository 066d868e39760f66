import java.util.Arrays;

/**
 * What the terms say of packets, exchanges and messages, worked out by the class's own calls: multiply, hash, stream
 * and tag of one object tell what has to be on the wire of another (promises 4 to 7, 9 to 11, 16, 17).
 */
public final class ReadingTest {
    private static final int CLIENT = Scene.CLIENT;
    private static final int SERVER = Scene.SERVER;
    private static final byte[] NINE = Scene.start(Kit.bytes(9), 32);

    public static void main(String[] args) {
        beginSendsInit();
        publicRow();
        serverAtRequest();
        clientAtReply();
        hostRow();
        theProof();
        theFirstH();
        everyPartOfH();
        keysOfASecondExchange();
        keysEachWay();
        keysAnew();
        bigNumbers();
        ofAnEnd();
        Kit.finish();
    }

    private static byte[] multiply(byte[] k, byte[] u) {
        SealedWire desk = new SealedWire();
        Kit.type(desk, Kit.join(k, u));
        desk.multiply();
        return Kit.out(desk, 32);
    }

    private static byte[] hash(byte[]... rows) {
        SealedWire desk = new SealedWire();
        Kit.type(desk, Kit.join(rows));
        desk.hash();
        return Kit.out(desk, 32);
    }

    private static byte[] stream(byte[] key, long nonce, int counter) {
        SealedWire desk = new SealedWire();
        Kit.type(desk, key);
        desk.stream(nonce, counter);
        return Kit.out(desk, 64);
    }

    private static byte[] tag(byte[] key, byte[] row) {
        SealedWire desk = new SealedWire();
        Kit.type(desk, Kit.join(key, row));
        desk.tag();
        return Kit.out(desk, 16);
    }

    private static byte[] part(byte[] row, int from, int count) {
        return Arrays.copyOfRange(row, from, from + count);
    }

    private static byte[] xor(byte[] one, byte[] other) {
        byte[] result = one.clone();
        for (int i = 0; i < result.length; i++) {
            result[i] ^= other[i];
        }
        return result;
    }

    /** Up to REPLY and NEW on the wire, from any wire on which nothing is under way. */
    private static void reply(SealedWire wire) {
        wire.begin(CLIENT);
        Kit.same("INIT, INIT, REQUEST", wire.run(3), 3);
    }

    private static void beginSendsInit() {
        Kit.sentence("An end BEGINS one: it sends INIT");
        for (int end = 0; end < 2; end++) {
            SealedWire wire = Scene.ready();
            wire.begin(end);
            Kit.same("the end", Kit.about(wire, end), "1 1 0 0 0 0 1 0 -1");
            Kit.same("the other", Kit.about(wire, 1 - end), "1 0 0 0 0 1 0 0 -1");
            Kit.same("INIT", part(Kit.packet(wire, 1 - end, 0), 5, 9),
                    end == CLIENT ? Scene.CLIENT_INIT : Scene.SERVER_INIT);
        }
    }

    private static void publicRow() {
        Kit.sentence("A secret's PUBLIC row is MULTIPLY(secret, 9)");
        for (byte[] secret : new byte[][] {new byte[32], Kit.rising(5, 32), Kit.rising(240, 32)}) {
            SealedWire wire = Scene.ready();
            Kit.set(wire, 0, secret);
            Kit.set(wire, 1, secret);
            wire.begin(CLIENT);
            wire.run(2);
            Kit.same("REQUEST", part(Kit.packet(wire, SERVER, 0), 5, 33),
                    Kit.join(Kit.bytes(30), multiply(secret, NINE)));
            wire.come(SERVER);
            Kit.same("REPLY", part(Kit.packet(wire, CLIENT, 0), 38, 32), multiply(secret, NINE));
        }
    }

    private static void serverAtRequest() {
        Kit.sentence("The server, at REQUEST, takes its secret, sends REPLY, then NEW, and has new keys for sending");
        SealedWire wire = Scene.ready();
        reply(wire);
        Kit.same("two packets", Kit.about(wire, SERVER), "1 3 2 0 0 0 1 1 -1");
        Kit.same("first REPLY", Kit.packet(wire, CLIENT, 0), Oracle.plain(Scene.reply()));
        Kit.same("then NEW", Kit.packet(wire, CLIENT, 1), Oracle.plain(Scene.NEW));
        Kit.send(wire, SERVER, Scene.IGNORE);
        Kit.same("then by the new keys", Kit.packet(wire, CLIENT, 2),
                Oracle.hidden(Scene.IGNORE, Scene.firstKeys(SERVER), 3));
        Kit.send(wire, CLIENT, Scene.IGNORE);
        Kit.same("for what comes it has none yet", wire.come(SERVER), 2);
    }

    private static void clientAtReply() {
        Kit.sentence("otherwise it sends NEW, and has new keys for sending");
        SealedWire wire = Scene.ready();
        reply(wire);
        Kit.send(wire, CLIENT, Scene.IGNORE);
        Kit.same("before REPLY it has none", Kit.packet(wire, SERVER, 0), Oracle.plain(Scene.IGNORE));
        Kit.same("REPLY", wire.come(CLIENT), 31);
        Kit.same("NEW", Kit.packet(wire, SERVER, 1), Oracle.plain(Scene.NEW));
        Kit.send(wire, CLIENT, Scene.IGNORE);
        Kit.same("then by the new keys", Kit.packet(wire, SERVER, 2),
                Oracle.hidden(Scene.IGNORE, Scene.firstKeys(CLIENT), 4));
        Kit.same("for what comes it has none yet: NEW", wire.come(CLIENT), 21);
        Kit.same("all the others", wire.run(50), 3);
        Kit.same("both live", wire.about(CLIENT, 0) + wire.about(SERVER, 0), 2);
    }

    private static void hostRow() {
        Kit.sentence("The host's row is the public row of the host's secret");
        for (byte[] secret : new byte[][] {new byte[32], Kit.rising(17, 32)}) {
            SealedWire wire = Scene.ready();
            Kit.set(wire, 2, secret);
            Kit.set(wire, 3, multiply(secret, NINE));
            reply(wire);
            Kit.same("in REPLY", part(Kit.packet(wire, CLIENT, 0), 6, 32), multiply(secret, NINE));
            Kit.same("the rest", wire.run(50), 3);
            Kit.same("trusted", wire.about(CLIENT, 4), 1);
        }
    }

    private static byte[] firstH() {
        byte[] clientRow = multiply(Scene.CLIENT_SECRET, NINE);
        byte[] serverRow = multiply(Scene.SERVER_SECRET, NINE);
        return hash(Scene.CLIENT_INIT, Scene.SERVER_INIT, multiply(Scene.HOST_SECRET, NINE), clientRow, serverRow,
                multiply(Scene.CLIENT_SECRET, serverRow));
    }

    private static void theProof() {
        Kit.sentence("The PROOF is the hash of MULTIPLY(the host's secret, the client's public row), H "
                + "(for the client: MULTIPLY(its secret, the host's row), H)");
        SealedWire wire = Scene.ready();
        reply(wire);
        byte[] proof = part(Kit.packet(wire, CLIENT, 0), 70, 32);
        byte[] clientRow = multiply(Scene.CLIENT_SECRET, NINE);
        Kit.same("the server's", proof, hash(multiply(Scene.HOST_SECRET, clientRow), firstH()));
        Kit.same("the client's", proof,
                hash(multiply(Scene.CLIENT_SECRET, multiply(Scene.HOST_SECRET, NINE)), firstH()));
    }

    private static void theFirstH() {
        Kit.sentence("H is the hash of: the client's INIT payload, the server's, the host's row (that of REPLY), "
                + "the client's public row, the server's, SHARED");
        for (int end = 0; end < 2; end++) {
            SealedWire wire = Scene.ready();
            wire.begin(end);
            wire.run(50);
            Kit.same("the client's session", Kit.session(wire, CLIENT), firstH());
            Kit.same("the server's session", Kit.session(wire, SERVER), firstH());
        }
    }

    /** Whichever row is another one, H is another one, and is the same at both ends. */
    private static void everyPartOfH() {
        Kit.sentence("H is the hash of: the client's INIT payload, the server's, the host's row (that of REPLY)");
        for (int what : new int[] {0, 1, 2, 4, 5}) {
            SealedWire wire = Scene.ready();
            byte[] row = Kit.rising(61, what < 4 ? 32 : 8);
            Kit.set(wire, what, row);
            if (what == 2) {
                Kit.set(wire, 3, multiply(row, NINE));
            }
            wire.begin(CLIENT);
            wire.run(50);
            Kit.same("over", wire.about(CLIENT, 4) + wire.about(SERVER, 4), 2);
            byte[] h = Kit.session(wire, CLIENT);
            Kit.same("another H for set(" + what + ")", Arrays.equals(h, firstH()), false);
            Kit.same("at both ends", Kit.session(wire, SERVER), h);
        }
    }

    /** In a second exchange H is not the SESSION, so that each of the two has its own place in a key. */
    private static void keysOfASecondExchange() {
        Kit.sentence("A key is the hash of SHARED, H, one byte, SESSION: of the client's packets 65 for HEAD, "
                + "66 for BODY; of the server's 67, 68");
        byte[] secret = Kit.rising(150, 32);
        SealedWire wire = Scene.agreed();
        Kit.set(wire, 1, secret);
        wire.begin(SERVER);
        wire.run(50);
        byte[] clientRow = multiply(Scene.CLIENT_SECRET, NINE);
        byte[] serverRow = multiply(secret, NINE);
        byte[] shared = multiply(secret, clientRow);
        byte[] h = hash(Scene.CLIENT_INIT, Scene.SERVER_INIT, multiply(Scene.HOST_SECRET, NINE), clientRow,
                serverRow, shared);
        byte[] payload = Kit.rising(94, 130);
        for (int end = 0; end < 2; end++) {
            byte[] head = hash(shared, h, Kit.bytes(65 + 2 * end), firstH());
            byte[] body = hash(shared, h, Kit.bytes(66 + 2 * end), firstH());
            Kit.send(wire, end, payload);
            checkHidden(Kit.packet(wire, 1 - end, 0), head, body, payload);
            Kit.same("it comes", wire.come(1 - end), 94);
        }
    }

    /** n is 136, as 1, 130 and 5 are; the packet is the seventh of its end, with the sequence number 6. */
    private static void checkHidden(byte[] packet, byte[] head, byte[] body, byte[] payload) {
        Kit.sentence("then the first four bytes are XOR the stream of HEAD, counter 0, the others XOR the streams "
                + "of BODY, counters 1, 2, and so on");
        Kit.same("the size", packet.length, 4 + 136 + 16);
        Kit.same("n", xor(part(packet, 0, 4), stream(head, 6, 0)), Kit.bytes(0, 0, 0, 136));
        byte[] streams = Kit.join(stream(body, 6, 1), stream(body, 6, 2), stream(body, 6, 3));
        Kit.same("p, the payload, zeros", xor(part(packet, 4, 136), streams),
                Kit.join(Kit.bytes(5), payload, new byte[5]));
        Kit.sentence("behind them comes the TAG of all that, its key being the first 32 bytes of the stream of BODY, "
                + "counter 0");
        Kit.same("the tag", part(packet, 140, 16), tag(part(stream(body, 6, 0), 0, 32), part(packet, 0, 140)));
    }

    private static void keysEachWay() {
        Kit.sentence("An end may have KEYS for sending, and for what comes (two rows of 32 bytes each: HEAD and BODY)");
        SealedWire wire = Scene.ready();
        reply(wire);
        wire.come(CLIENT);
        Kit.send(wire, SERVER, Scene.DATA);
        Kit.send(wire, CLIENT, Scene.DATA);
        Kit.same("NEW without keys", wire.come(CLIENT), 21);
        Kit.same("DATA by the server's", wire.come(CLIENT), 94);
        Kit.same("the server still has none: NEW", wire.come(SERVER), 21);
        Kit.same("DATA by the client's", wire.come(SERVER), 94);
        // The other way's keys are not good.
        Kit.send(wire, CLIENT, Scene.DATA);
        Scene.replace(wire, SERVER, 0, Oracle.hidden(Scene.DATA, Scene.firstKeys(SERVER), 4));
        Kit.same("by the server's own", wire.come(SERVER), -2);
    }

    private static void keysAnew() {
        Kit.sentence("keys are made anew whenever one asks for it");
        SealedWire wire = Scene.agreed();
        byte[] shared = Scene.shared(Scene.CLIENT_SECRET, Scene.SERVER_SECRET);
        for (int i = 0; i < 4; i++) {
            byte[] cookie = Kit.rising(100 + i, 8);
            Kit.set(wire, 4, cookie);
            wire.begin(i % 2);
            Kit.same("an exchange", wire.run(50), 6);
            byte[] h = Scene.h(Kit.join(Kit.bytes(20), cookie), Scene.SERVER_INIT, Scene.CLIENT_SECRET,
                    Scene.SERVER_SECRET);
            Kit.send(wire, CLIENT, Scene.IGNORE);
            Kit.same("keys of exchange " + i, Kit.packet(wire, SERVER, 0),
                    Oracle.hidden(Scene.IGNORE, Scene.keys(CLIENT, shared, h, Scene.firstH()), 6 + 4 * i));
            Kit.same("it comes", wire.come(SERVER), 2);
        }
    }

    /** 85 exchanges of three packets each way: the next ones have the sequence numbers 255, 256 and 257. */
    private static void bigNumbers() {
        SealedWire wire = Scene.ready();
        for (int i = 0; i < 85; i++) {
            wire.begin(i % 2);
            wire.run(50);
        }
        for (int sequence = 255; sequence < 258; sequence++) {
            Kit.sentence("The nonce is always the sequence number of the packet");
            Kit.send(wire, CLIENT, Kit.bytes(77));
            Kit.same("packet " + sequence, Kit.packet(wire, SERVER, 0),
                    Oracle.hidden(Kit.bytes(77), Scene.firstKeys(CLIENT), sequence));
            Kit.same("it comes", wire.come(SERVER), 77);
            Kit.sentence("3 UNKNOWN and the sequence number of the packet that was not known (big, 4 bytes)");
            Kit.same("UNKNOWN of " + sequence, Kit.packet(wire, CLIENT, 0),
                    Oracle.hidden(Kit.bytes(3, 0, 0, sequence >> 8, sequence), Scene.firstKeys(SERVER), sequence));
            Kit.same("it comes", wire.come(CLIENT), 3);
            Kit.same("its number", wire.about(CLIENT, 8), sequence);
        }
    }

    /** Every number is another one, so that none can stand for another. */
    private static void ofAnEnd() {
        Kit.sentence("1 packets that it sent, 2 packets that came, 3 bytes that it got, 4 exchanges that are over, "
                + "5 packets to it on the wire, 6 whether it has sent INIT since the last exchange was over, "
                + "7 whether it got it");
        SealedWire wire = Scene.agreed();
        wire.begin(CLIENT);
        wire.run(50);
        Kit.send(wire, SERVER, Kit.join(Kit.bytes(94), new byte[20]));
        Kit.send(wire, SERVER, Kit.bytes(3, 0, 0, 0, 33));
        wire.run(50);
        for (int i = 0; i < 4; i++) {
            Kit.send(wire, SERVER, Scene.IGNORE);
        }
        for (int i = 0; i < 5; i++) {
            Kit.send(wire, CLIENT, Scene.IGNORE);
        }
        Kit.same("the client", Kit.about(wire, CLIENT), "1 11 8 20 2 4 0 0 33");
        Kit.same("the server", Kit.about(wire, SERVER), "1 12 6 0 2 5 0 0 -1");
        wire.begin(CLIENT);
        Kit.same("the client has sent INIT", Kit.about(wire, CLIENT), "1 12 8 20 2 4 1 0 33");
        for (int i = 0; i < 6; i++) {
            wire.come(SERVER);
        }
        Kit.same("the server got it, and has sent its own", Kit.about(wire, SERVER), "1 13 12 0 2 0 1 1 -1");
        Kit.same("it is on the wire to the client", Kit.about(wire, CLIENT), "1 12 8 20 2 5 1 0 33");
        Kit.same("the rest", wire.run(50), 9);
        Kit.same("over at the client", Kit.about(wire, CLIENT), "1 14 15 20 3 0 0 0 33");
        Kit.same("over at the server", Kit.about(wire, SERVER), "1 15 14 0 3 0 0 0 -1");
    }
}
