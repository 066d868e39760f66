/** What a packet is, and which ones are broken: on both sides of every boundary (promises 10, 11, 13, 14). */
public final class PacketEdgeTest {
    private static final int CLIENT = Scene.CLIENT;
    private static final int SERVER = Scene.SERVER;

    public static void main(String[] args) {
        payloadSizes();
        paddingWithoutKeys();
        paddingWithKeys();
        countersOfTheBody();
        nonces();
        payloadOfNone();
        payloadOf201();
        paddingThatIsNotTheLeast();
        paddingThatIsNotZeros();
        wrongN();
        wrongTag();
        othersKeys();
        keysWhereNoneAreDue();
        brokenEnds();
        packetBounds();
        damageBounds();
        Kit.finish();
    }

    private static byte[] data(int size) {
        byte[] payload = Kit.rising(size, size);
        payload[0] = 94;
        return payload;
    }

    /** A client's packet of some payload has just become another one, of the same size. */
    private static SealedWire plain(byte[] payload, byte[] packet) {
        SealedWire wire = Scene.ready();
        Kit.send(wire, CLIENT, payload);
        Scene.replace(wire, SERVER, 0, packet);
        return wire;
    }

    /** The same, behind an exchange: the row is hidden and sealed as it should be. */
    private static SealedWire hidden(byte[] payload, byte[] open) {
        SealedWire wire = Scene.agreed();
        Kit.send(wire, CLIENT, payload);
        Scene.replace(wire, SERVER, 0, Oracle.sealed(open, Scene.firstKeys(CLIENT), 3));
        return wire;
    }

    private static void broken(String what, SealedWire wire) {
        Kit.same(what, wire.come(SERVER), -2);
        Kit.same(what + ": the server ended", wire.about(SERVER, 0), 0);
        Kit.same(what + ": END was sent", wire.about(CLIENT, 5), 1);
    }

    private static void good(String what, SealedWire wire, int message) {
        Kit.same(what, wire.come(SERVER), message);
        Kit.same(what + ": the server lives", wire.about(SERVER, 0), 1);
        Kit.same(what + ": nothing was sent", wire.about(CLIENT, 5), 0);
    }

    private static void payloadSizes() {
        Kit.sentence("IllegalArgumentException when it has not 1 .. 200 bytes");
        for (int size : new int[] {0, 1, 2, 199, 200, 201, 202, 600}) {
            for (SealedWire wire : new SealedWire[] {Scene.ready(), Scene.agreed()}) {
                boolean fits = size >= 1 && size <= 200;
                int sent = wire.about(CLIENT, 1);
                Kit.type(wire, size == 0 ? new byte[0] : data(size));
                Kit.thrown("send of " + size, () -> wire.send(CLIENT), fits ? Kit.NONE : Kit.ARGUMENT);
                Kit.same("packets of " + size, wire.about(SERVER, 5), fits ? 1 : 0);
                Kit.same("counted " + size, wire.about(CLIENT, 1), fits ? sent + 1 : sent);
                Kit.same("it comes", wire.come(SERVER), fits ? 94 : -1);
            }
        }
    }

    private static void paddingWithoutKeys() {
        Kit.sentence("Without keys p is the least number of 4 or more with which n + 4 is a multiple of 8");
        int[] padding = {10, 9, 8, 7, 6, 5, 4, 11, 10, 9, 8, 7, 6, 5, 4, 11};
        for (int size = 1; size <= padding.length; size++) {
            SealedWire wire = new SealedWire();
            Kit.send(wire, CLIENT, data(size));
            Kit.same("p of " + size, wire.packet(SERVER, 0, 4), padding[size - 1]);
            Kit.same("n of " + size, wire.packet(SERVER, 0, 3), 1 + size + padding[size - 1]);
            Kit.same("all of " + size, wire.packet(SERVER, 0, -1), 5 + size + padding[size - 1]);
        }
    }

    private static void paddingWithKeys() {
        Kit.sentence("With keys: with which n is");
        int[] padding = {6, 5, 4, 11, 10, 9, 8, 7, 6, 5, 4, 11};
        for (int size = 1; size <= padding.length; size++) {
            SealedWire wire = Scene.agreed();
            Kit.send(wire, CLIENT, data(size));
            Kit.same("all of " + size, wire.packet(SERVER, 0, -1), 4 + 1 + size + padding[size - 1] + 16);
            Kit.same("the row of " + size, Kit.packet(wire, SERVER, 0),
                    Oracle.sealed(Oracle.framed(data(size), padding[size - 1]), Scene.firstKeys(CLIENT), 3));
        }
    }

    /** n is 64 for 59 bytes, 128 for 123, 192 for 187: then the last block is full, and a byte more needs another. */
    private static void countersOfTheBody() {
        Kit.sentence("the others XOR the streams of BODY, counters 1, 2, and so on");
        for (int size : new int[] {58, 59, 60, 122, 123, 124, 186, 187, 188, 200}) {
            SealedWire wire = Scene.agreed();
            Kit.send(wire, SERVER, data(size));
            Kit.same("the row of " + size, Kit.packet(wire, CLIENT, 0),
                    Oracle.hidden(data(size), Scene.firstKeys(SERVER), 3));
            Kit.same("it comes", wire.come(CLIENT), 94);
        }
    }

    /** 85 exchanges are 255 packets each way: the next two have the numbers 255 and 256. */
    private static void nonces() {
        Kit.sentence("The nonce is always the sequence number of the packet");
        SealedWire wire = Scene.ready();
        wire.begin(CLIENT);
        wire.run(50);
        for (int i = 1; i < 85; i++) {
            wire.begin(i % 2);
            wire.run(50);
        }
        byte[][] keys = Scene.keys(CLIENT, Scene.shared(Scene.CLIENT_SECRET, Scene.SERVER_SECRET),
                Scene.firstH(), Scene.firstH());
        for (int number = 255; number <= 257; number++) {
            Kit.send(wire, CLIENT, Kit.bytes(77, 1));
            Kit.same("packet " + number, Kit.packet(wire, SERVER, 0),
                    Oracle.hidden(Kit.bytes(77, 1), keys, number));
            Kit.same("it is not known", wire.come(SERVER), 77);
            Kit.same("UNKNOWN", wire.come(CLIENT), 3);
            Kit.same("and its number", wire.about(CLIENT, 8), number);
        }
    }

    private static void payloadOfNone() {
        Kit.sentence("It is BROKEN, if it is not just such a row (of a payload of 1 to 200 bytes)");
        byte[] one = Kit.bytes(2);
        good("a payload of 1", plain(one, Oracle.framed(one, 10)), 2);
        broken("a payload of 0", plain(one, Oracle.framed(new byte[0], 11)));
        good("with keys, of 1", hidden(one, Oracle.framed(one, 6)), 2);
        broken("with keys, of 0", hidden(one, Oracle.framed(new byte[0], 7)));
    }

    private static void payloadOf201() {
        Kit.sentence("It is BROKEN, if it is not just such a row (of a payload of 1 to 200 bytes)");
        for (int size = 200; size <= 207; size++) {
            byte[] payload = Scene.start(Kit.bytes(2), size);
            SealedWire wire = plain(Scene.start(Kit.bytes(2), 200), Oracle.framed(payload, 211 - size));
            if (size == 200) {
                good("a payload of 200", wire, 2);
            } else {
                broken("a payload of " + size, wire);
            }
        }
        for (int size = 200; size <= 203; size++) {
            SealedWire wire = Scene.agreed();
            byte[] payload = Scene.start(Kit.bytes(2), size);
            Kit.send(wire, CLIENT, Scene.start(Kit.bytes(2), 200));
            // Only what differs is damaged: a whole packet of 228 would need too many calls.
            byte[] is = Oracle.hidden(Scene.start(Kit.bytes(2), 200), Scene.firstKeys(CLIENT), 3);
            byte[] due = Oracle.sealed(Oracle.framed(payload, 207 - size), Scene.firstKeys(CLIENT), 3);
            for (int i = 0; i < due.length; i++) {
                if (is[i] != due[i]) {
                    wire.damage(SERVER, 0, i, (is[i] ^ due[i]) & 255);
                }
            }
            if (size == 200) {
                good("with keys, a payload of 200", wire, 2);
            } else {
                broken("with keys, a payload of " + size, wire);
            }
        }
    }

    private static void paddingThatIsNotTheLeast() {
        Kit.sentence("p is the least number of 4 or more");
        byte[] payload = Scene.start(Kit.bytes(2), 13);
        for (int p = 0; p <= 19; p++) {
            // 24 bytes without keys, 4 and 24 with them: p takes from the payload what it has more.
            SealedWire wire = plain(payload, Oracle.framed(Scene.start(Kit.bytes(2), 19 - p), p));
            SealedWire sealed = hidden(payload, Oracle.framed(Scene.start(Kit.bytes(2), 23 - p), p));
            if (p >= 4 && p <= 11) {
                good("p = " + p, wire, 2);
                good("with keys, p = " + p, sealed, 2);
            } else {
                broken("p = " + p, wire);
                broken("with keys, p = " + p, sealed);
            }
        }
        for (int p : new int[] {20, 127, 128, 255}) {
            byte[] row = Oracle.framed(payload, 6);
            row[4] = (byte) p;
            broken("p = " + p, plain(payload, row));
            byte[] open = Oracle.framed(payload, 10);
            open[4] = (byte) p;
            broken("with keys, p = " + p, hidden(payload, open));
        }
    }

    private static void paddingThatIsNotZeros() {
        Kit.sentence("the payload; p zeros");
        byte[] payload = Kit.bytes(2, 9, 9, 9);
        for (int i = 0; i < 7; i++) {
            byte[] row = Oracle.framed(payload, 7);
            row[9 + i] = 1;
            broken("zero " + i, plain(payload, row));
        }
        for (int i = 0; i < 11; i++) {
            byte[] row = Oracle.framed(payload, 11);
            row[9 + i] = (byte) 128;
            broken("with keys, zero " + i, hidden(payload, row));
        }
        byte[] other = Kit.bytes(2, 9, 9, 1);
        good("the payload's last byte may be any", plain(payload, Oracle.framed(other, 7)), 2);
        good("with keys, too", hidden(payload, Oracle.framed(other, 11)), 2);
    }

    private static void wrongN() {
        Kit.sentence("n being 1 and the payload's bytes and p");
        byte[] payload = Kit.bytes(2, 9, 9, 9);
        for (int bit = 0; bit < 32; bit++) {
            byte[] row = Oracle.framed(payload, 7);
            row[3 - bit / 8] ^= (byte) (1 << bit % 8);
            broken("bit " + bit + " of n", plain(payload, row));
            byte[] open = Oracle.framed(payload, 11);
            open[3 - bit / 8] ^= (byte) (1 << bit % 8);
            broken("with keys, bit " + bit + " of n", hidden(payload, open));
        }
        for (int off : new int[] {-1, 1, 4, -4, 8, -8}) {
            byte[] row = Oracle.framed(payload, 7);
            row[3] += (byte) off;
            broken("n off by " + off, plain(payload, row));
        }
    }

    private static void wrongTag() {
        Kit.sentence("behind them comes the TAG of all that");
        byte[] payload = Kit.bytes(2, 9, 9, 9);
        int size = Oracle.hidden(payload, Scene.firstKeys(CLIENT), 3).length;
        for (int i = 0; i < size; i++) {
            SealedWire wire = Scene.agreed();
            Kit.send(wire, CLIENT, payload);
            wire.damage(SERVER, 0, i, 128 >> i % 8);
            broken("byte " + i + " of " + size, wire);
        }
        SealedWire wire = Scene.agreed();
        Kit.send(wire, CLIENT, payload);
        wire.damage(SERVER, 0, size - 1, 0);
        good("no damage", wire, 2);
        SealedWire open = Scene.agreed();
        Kit.send(open, CLIENT, payload);
        Scene.replace(open, SERVER, 0, Kit.join(Oracle.framed(payload, 11), new byte[16]));
        broken("a row that is not hidden", open);
        SealedWire other = Scene.agreed();
        Kit.send(other, CLIENT, payload);
        byte[] row = Oracle.framed(payload, 11);
        byte[] key = Scene.start(Oracle.stream(Scene.firstKeys(CLIENT)[1], 3, 0), 32);
        Scene.replace(other, SERVER, 0, Kit.join(row, Oracle.tag(key, row)));
        broken("a row that is sealed, and not hidden", other);
        SealedWire early = Scene.agreed();
        Kit.send(early, CLIENT, payload);
        Scene.replace(early, SERVER, 0,
                Kit.join(Oracle.xor(row, Scene.firstKeys(CLIENT), 3), Oracle.tag(key, row)));
        broken("a row that was sealed before it was hidden", early);
    }

    private static void othersKeys() {
        Kit.sentence("for the end to which it comes, with its keys and its sequence number");
        byte[][] own = Scene.firstKeys(CLIENT);
        byte[][] other = Scene.firstKeys(SERVER);
        byte[][][] keys = {own, other, {own[0], other[1]}, {other[0], own[1]}, {own[1], own[0]}};
        for (int i = 0; i < keys.length; i++) {
            for (int sequence = 2; sequence <= 4; sequence++) {
                SealedWire wire = Scene.agreed();
                Kit.send(wire, CLIENT, Scene.IGNORE);
                Scene.replace(wire, SERVER, 0, Oracle.hidden(Scene.IGNORE, keys[i], sequence));
                if (i == 0 && sequence == 3) {
                    good("its keys and number", wire, 2);
                } else {
                    broken("keys " + i + ", number " + sequence, wire);
                }
            }
        }
    }

    /** The server's keys are new behind its NEW; a client to which that has not come has none yet. */
    private static void keysWhereNoneAreDue() {
        Kit.sentence("for the end to which it comes, with its keys and its sequence number");
        SealedWire wire = Scene.ready();
        wire.begin(CLIENT);
        wire.run(3);
        Kit.send(wire, SERVER, Scene.DATA);
        Scene.forge(wire, CLIENT, 0, Kit.bytes(2));
        Scene.forge(wire, CLIENT, 1, Kit.bytes(2));
        Kit.same("REPLY became IGNORE", wire.come(CLIENT), 2);
        Kit.same("NEW became IGNORE", wire.come(CLIENT), 2);
        Kit.same("a packet with keys at a client without", wire.come(CLIENT), -2);

        SealedWire renewed = Scene.ready();
        renewed.begin(CLIENT);
        renewed.run(3);
        Kit.send(renewed, SERVER, Scene.DATA);
        renewed.come(CLIENT);
        renewed.come(CLIENT);
        Kit.same("the same behind NEW", renewed.come(CLIENT), 94);

        for (int size = 1; size <= 40; size++) {
            // To the client an exchange is over of which the server knows nothing: it has no keys.
            SealedWire forged = Scene.ready();
            Scene.smuggle(forged, SERVER, Scene.SERVER_INIT);
            forged.come(CLIENT);
            Scene.smuggle(forged, SERVER, Scene.reply());
            Scene.smuggle(forged, SERVER, Scene.NEW);
            forged.come(CLIENT);
            Kit.same("NEW", forged.come(CLIENT), 21);
            Kit.send(forged, SERVER, Scene.start(Kit.bytes(2), size));
            Kit.same("a packet without keys at a client with them", forged.come(CLIENT), -2);
        }
    }

    private static void brokenEnds() {
        Kit.sentence("-2 when it is broken (it counts as one that came)");
        SealedWire wire = Scene.ready();
        Kit.send(wire, CLIENT, Scene.DATA);
        Kit.send(wire, CLIENT, Scene.DATA);
        wire.damage(SERVER, 0, 3, 1);
        Kit.same("broken", wire.come(SERVER), -2);
        Kit.same("it came, END was sent, the server ended", Kit.about(wire, SERVER), "0 1 1 0 0 1 0 0 -1");
        Kit.same("END", Kit.packet(wire, CLIENT, 0), Oracle.plain(Scene.END));
        Kit.same("the next one is gone", wire.come(SERVER), -4);
        Kit.same("and not counted", Kit.about(wire, SERVER), "0 1 1 0 0 0 0 0 -1");
    }

    private static void packetBounds() {
        Kit.sentence("Byte i of the k-th packet to an end; how many bytes it has for i = -1");
        SealedWire wire = new SealedWire();
        Kit.thrown("the first of none", () -> wire.packet(SERVER, 0, -1), Kit.NO_SUCH);
        for (int i = 0; i < 3; i++) {
            Kit.send(wire, CLIENT, data(1 + 8 * i));
        }
        for (int k : new int[] {Integer.MIN_VALUE, -1, 0, 1, 2, 3, 11, 12, Integer.MAX_VALUE}) {
            int size = 16 + 8 * k;
            for (int i : new int[] {Integer.MIN_VALUE, -2, -1, 0, size - 1, size, Integer.MAX_VALUE}) {
                boolean there = k >= 0 && k < 3;
                String due = !there ? Kit.NO_SUCH : i < -1 || i >= size ? Kit.INDEX : Kit.NONE;
                Kit.thrown("packet " + k + ", byte " + i, () -> wire.packet(SERVER, k, i), due);
            }
        }
        for (int end : new int[] {Integer.MIN_VALUE, -1, 0, 2, Integer.MAX_VALUE}) {
            Kit.thrown("packet to " + end, () -> wire.packet(end, 0, -1), Kit.NO_SUCH);
        }
        for (int k = 0; k < 3; k++) {
            Kit.same("the size of " + k, wire.packet(SERVER, k, -1), 16 + 8 * k);
            Kit.same("the first byte of " + k, wire.packet(SERVER, k, 5), 94);
        }
    }

    private static void damageBounds() {
        Kit.sentence("Byte i of the k-th packet to an end is XOR x (0 .. 255)");
        SealedWire wire = new SealedWire();
        Kit.send(wire, CLIENT, data(3));
        byte[] before = Kit.packet(wire, SERVER, 0);
        for (int x : new int[] {Integer.MIN_VALUE, -256, -1, 256, 257, Integer.MAX_VALUE}) {
            Kit.thrown("by " + x, () -> wire.damage(SERVER, 0, 0, x), Kit.ARGUMENT);
            Kit.thrown("byte -1 by " + x, () -> wire.damage(SERVER, 0, -1, x), Kit.INDEX);
            Kit.thrown("packet 1 by " + x, () -> wire.damage(SERVER, 1, -1, x), Kit.NO_SUCH);
        }
        for (int i : new int[] {Integer.MIN_VALUE, -2, -1, 16, 17, Integer.MAX_VALUE}) {
            Kit.thrown("byte " + i, () -> wire.damage(SERVER, 0, i, 1), Kit.INDEX);
        }
        for (int k : new int[] {Integer.MIN_VALUE, -1, 1, 12, Integer.MAX_VALUE}) {
            Kit.thrown("packet " + k, () -> wire.damage(SERVER, k, 0, 1), Kit.NO_SUCH);
        }
        for (int end : new int[] {Integer.MIN_VALUE, -1, 0, 2, Integer.MAX_VALUE}) {
            Kit.thrown("to " + end, () -> wire.damage(end, 0, 0, 1), Kit.NO_SUCH);
        }
        Kit.same("nothing has changed", Kit.packet(wire, SERVER, 0), before);
        for (int i : new int[] {0, 15}) {
            for (int x : new int[] {0, 1, 128, 255}) {
                int old = wire.packet(SERVER, 0, i);
                wire.damage(SERVER, 0, i, x);
                Kit.same("byte " + i + " XOR " + x, wire.packet(SERVER, 0, i), old ^ x);
            }
        }
    }
}
