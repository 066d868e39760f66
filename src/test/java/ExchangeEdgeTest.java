/** Exchanges: what is taken when, whom the client refuses, and what an end has then (promises 3, 9, 16, 17). */
public final class ExchangeEdgeTest {
    private static final int CLIENT = Scene.CLIENT;
    private static final int SERVER = Scene.SERVER;

    public static void main(String[] args) {
        requestWhenSentAndGot();
        clientSecretInTime();
        serverSecretInTime();
        hostSecretAtOnce();
        trustAtOnce();
        cookiesAtOnce();
        otherRow();
        otherProof();
        sessionOfAnUntrustedRow();
        sessionWithTheRowOfReply();
        sessionOfARefusalOnAFullWire();
        sessionOfASecondRefusal();
        sessionOfAWrongProof();
        sessionIsTheFirst();
        sessionBounds();
        keysAtNew();
        overAtNew();
        beginPlaces();
        beginOfNoEnd();
        Kit.finish();
    }

    /** INIT has gone both ways, and REQUEST is on the wire. */
    private static SealedWire requested() {
        SealedWire wire = Scene.ready();
        wire.begin(CLIENT);
        wire.come(SERVER);
        wire.come(CLIENT);
        return wire;
    }

    /** REPLY and NEW are on the wire. */
    private static SealedWire replied() {
        SealedWire wire = requested();
        wire.come(SERVER);
        return wire;
    }

    private static byte[] flipped(byte[] row, int bit) {
        byte[] other = row.clone();
        other[bit / 8] ^= (byte) (1 << bit % 8);
        return other;
    }

    private static void requestWhenSentAndGot() {
        Kit.sentence("When the client has sent and got INIT, it takes its SECRET, and sends REQUEST");
        SealedWire sent = Scene.ready();
        sent.begin(CLIENT);
        Kit.same("it has sent INIT alone", sent.about(CLIENT, 1), 1);
        sent.come(SERVER);
        Kit.same("the server sends no REQUEST", sent.about(SERVER, 1), 1);
        sent.come(CLIENT);
        Kit.same("sent, then got", sent.packet(SERVER, 0, 5), 30);
        SealedWire got = Scene.ready();
        got.begin(SERVER);
        got.come(CLIENT);
        Kit.same("got, then sent", got.packet(SERVER, 1, 5), 30);
        Kit.same("one of each", got.about(CLIENT, 1), 2);
    }

    private static void clientSecretInTime() {
        Kit.sentence("the client's SECRET, 1 the server's (from the next time it is taken on");
        byte[] other = Kit.rising(55, 32);
        SealedWire before = Scene.ready();
        before.begin(CLIENT);
        before.come(SERVER);
        Kit.set(before, 0, other);
        before.come(CLIENT);
        Kit.same("set just before it is taken", Kit.packet(before, SERVER, 0),
                Oracle.plain(Kit.join(Kit.bytes(30), Oracle.publicRow(other))));
        before.run(50);
        Kit.same("it counts", Kit.session(before, CLIENT),
                Scene.h(Scene.CLIENT_INIT, Scene.SERVER_INIT, other, Scene.SERVER_SECRET));

        SealedWire after = requested();
        Kit.set(after, 0, other);
        after.run(50);
        Kit.same("set just after it was taken", Kit.session(after, CLIENT), Scene.firstH());
        Kit.same("the client lives", after.about(CLIENT, 0), 1);
        after.begin(CLIENT);
        after.come(SERVER);
        after.come(CLIENT);
        Kit.same("the next time it counts", Kit.packet(after, SERVER, 0),
                Oracle.hidden(Kit.join(Kit.bytes(30), Oracle.publicRow(other)), Scene.firstKeys(CLIENT), 4));
    }

    private static void serverSecretInTime() {
        Kit.sentence("the client's SECRET, 1 the server's (from the next time it is taken on");
        byte[] other = Kit.rising(66, 32);
        SealedWire before = requested();
        Kit.set(before, 1, other);
        before.run(50);
        Kit.same("set just before it is taken", Kit.session(before, SERVER),
                Scene.h(Scene.CLIENT_INIT, Scene.SERVER_INIT, Scene.CLIENT_SECRET, other));
        SealedWire after = replied();
        Kit.set(after, 1, other);
        after.run(50);
        Kit.same("set just after it was taken", Kit.session(after, SERVER), Scene.firstH());
        Kit.same("both live", after.about(CLIENT, 0) + after.about(SERVER, 0), 2);
    }

    private static void hostSecretAtOnce() {
        Kit.sentence("the others count at once), 2 the host's secret");
        SealedWire after = replied();
        Kit.set(after, 2, new byte[32]);
        after.run(50);
        Kit.same("set after REPLY it does not matter", after.about(CLIENT, 4), 1);
        SealedWire before = requested();
        Kit.set(before, 2, new byte[32]);
        before.run(50);
        Kit.same("set before it makes another row", before.about(CLIENT, 0), 0);
    }

    private static void trustAtOnce() {
        Kit.sentence("the others count at once), 2 the host's secret, 3 the row that the client TRUSTS");
        SealedWire before = replied();
        Kit.set(before, 3, new byte[32]);
        Kit.same("set just before REPLY comes", before.come(CLIENT), 31);
        Kit.same("the client ended", before.about(CLIENT, 0), 0);
        SealedWire after = replied();
        after.come(CLIENT);
        Kit.set(after, 3, new byte[32]);
        after.run(50);
        Kit.same("set just after it came", after.about(CLIENT, 4), 1);
        SealedWire late = Scene.ready();
        Kit.set(late, 3, new byte[32]);
        late.begin(CLIENT);
        late.run(3);
        Kit.set(late, 3, Scene.HOST_ROW);
        late.run(50);
        Kit.same("trusted just before", late.about(CLIENT, 4), 1);
    }

    private static void cookiesAtOnce() {
        Kit.sentence("8 bytes: 4 the client's COOKIE, 5 the server's");
        byte[] other = Kit.rising(200, 8);
        for (int end = 0; end < 2; end++) {
            SealedWire before = Scene.ready();
            Kit.set(before, 4 + end, other);
            before.begin(end);
            Kit.same("set just before INIT", Kit.packet(before, 1 - end, 0),
                    Oracle.plain(Kit.join(Kit.bytes(20), other)));
            SealedWire after = Scene.ready();
            after.begin(end);
            Kit.set(after, 4 + end, other);
            Kit.same("set just after", Kit.packet(after, 1 - end, 0),
                    Oracle.plain(end == CLIENT ? Scene.CLIENT_INIT : Scene.SERVER_INIT));
            after.run(50);
            Kit.same("the INIT that was sent counts", Kit.session(after, CLIENT), Scene.firstH());
            Kit.same("at the server, too", Kit.session(after, SERVER), Scene.firstH());
        }
    }

    private static void refused(String what, SealedWire wire) {
        Kit.same(what + ": come answers 31 all the same", wire.come(CLIENT), 31);
        Kit.same(what + ": END was sent, it ended", Kit.about(wire, CLIENT), "0 3 2 0 0 1 1 1 -1");
        Kit.same(what + ": END", Kit.packet(wire, SERVER, 0), Oracle.plain(Scene.END));
        Kit.same(what + ": no NEW", wire.about(SERVER, 5), 1);
    }

    private static void otherRow() {
        Kit.sentence("if the host's row is not the one that it TRUSTS");
        for (int bit = 0; bit < 256; bit++) {
            SealedWire wire = replied();
            Kit.set(wire, 3, flipped(Scene.HOST_ROW, bit));
            refused("bit " + bit, wire);
        }
        SealedWire same = replied();
        Kit.set(same, 3, Scene.HOST_ROW);
        Kit.same("the same row", same.come(CLIENT), 31);
        Kit.same("it goes on", Kit.about(same, CLIENT), "1 3 2 0 0 1 1 1 -1");
        Kit.same("NEW", Kit.packet(same, SERVER, 0), Oracle.plain(Scene.NEW));
    }

    private static void otherProof() {
        Kit.sentence("or the PROOF is another one, it sends END and ENDS (come answers 31 all the same)");
        for (int bit = 0; bit < 256; bit++) {
            SealedWire wire = replied();
            wire.damage(CLIENT, 0, 70 + bit / 8, 1 << bit % 8);
            refused("bit " + bit, wire);
        }
        SealedWire same = replied();
        damageTwice(same);
        Kit.same("the same proof", same.come(CLIENT), 31);
        Kit.same("it goes on", Kit.about(same, CLIENT), "1 3 2 0 0 1 1 1 -1");
    }

    private static void damageTwice(SealedWire wire) {
        wire.damage(CLIENT, 0, 70, 255);
        wire.damage(CLIENT, 0, 70, 255);
    }

    /** The sentence asks for the proof alone: a client that ends at a row which it does not trust has its SESSION. */
    private static void sessionOfAnUntrustedRow() {
        Kit.sentence("The first H that an end has (the client: if the proof was right) is its SESSION");
        for (int bit : new int[] {0, 127, 255}) {
            SealedWire wire = replied();
            Kit.set(wire, 3, flipped(Scene.HOST_ROW, bit));
            Kit.thrown("none before REPLY comes", () -> wire.session(CLIENT, 0), Kit.STATE);
            refused("an untrusted row", wire);
            Kit.same("the client's", Kit.session(wire, CLIENT), Scene.firstH());
            Kit.same("the server's", Kit.session(wire, SERVER), Scene.firstH());
            Kit.same("END comes", wire.come(SERVER), 1);
            Kit.same("NEW is gone", wire.come(CLIENT), -4);
            Kit.same("it stays", Kit.session(wire, CLIENT), Scene.firstH());
        }
        SealedWire fresh = new SealedWire();
        fresh.begin(SERVER);
        Kit.same("INIT, INIT, REQUEST, REPLY, END, and NEW is gone", fresh.run(50), 6);
        Kit.same("a new object trusts no host", Kit.about(fresh, CLIENT), "0 3 2 0 0 0 1 1 -1");
        Kit.same("both have the same", Kit.session(fresh, CLIENT), Kit.session(fresh, SERVER));
    }

    /** Another host proves that it has its own secret: H is that of the row which it sent. */
    private static void sessionWithTheRowOfReply() {
        Kit.sentence("the host's row (that of REPLY)");
        byte[] secret = Kit.rising(31, 32);
        byte[] row = Oracle.publicRow(secret);
        byte[] clientRow = Oracle.publicRow(Scene.CLIENT_SECRET);
        byte[] serverRow = Oracle.publicRow(Scene.SERVER_SECRET);
        byte[] h = Oracle.hash(Kit.join(Scene.CLIENT_INIT, Scene.SERVER_INIT, row, clientRow, serverRow,
                Scene.shared(Scene.CLIENT_SECRET, Scene.SERVER_SECRET)));
        byte[] proof = Oracle.hash(Kit.join(Oracle.multiply(secret, clientRow), h));
        SealedWire wire = replied();
        Scene.forge(wire, CLIENT, 0, Kit.join(Kit.bytes(31), row, serverRow, proof));
        refused("another host", wire);
        Kit.same("its row counts", Kit.session(wire, CLIENT), h);

        SealedWire swapped = replied();
        Scene.forge(swapped, CLIENT, 0, Kit.join(Kit.bytes(31), row));
        refused("another row, and the proof of the first", swapped);
        Kit.thrown("the proof was not right", () -> swapped.session(CLIENT, 0), Kit.STATE);
        SealedWire neither = replied();
        Kit.set(neither, 3, new byte[32]);
        neither.damage(CLIENT, 0, 70, 1);
        refused("an untrusted row, and another proof", neither);
        Kit.thrown("the proof was not right", () -> neither.session(CLIENT, 31), Kit.STATE);
    }

    private static void sessionOfARefusalOnAFullWire() {
        Kit.sentence("(What it had to do besides, as to make keys and its SESSION, is done, but it sends nothing.)");
        SealedWire wire = replied();
        Kit.set(wire, 3, new byte[32]);
        for (int i = 0; i < 12; i++) {
            Kit.send(wire, CLIENT, Scene.IGNORE);
        }
        Kit.same("REPLY comes", wire.come(CLIENT), 31);
        Kit.same("END is lost", Kit.about(wire, CLIENT), "0 14 2 0 0 1 1 1 -1");
        Kit.same("the session is made", Kit.session(wire, CLIENT), Scene.firstH());
    }

    private static void sessionOfASecondRefusal() {
        Kit.sentence("The first H that an end has (the client: if the proof was right) is its SESSION");
        for (int what = 2; what <= 3; what++) {
            SealedWire wire = Scene.agreed();
            Kit.set(wire, 0, Kit.rising(55, 32));
            // Another host, then another row that is trusted.
            Kit.set(wire, what, new byte[32]);
            wire.begin(CLIENT);
            Kit.same("END goes by the keys of the first exchange", wire.run(50), 6);
            Kit.same("it was taken as such", Kit.about(wire, SERVER), "0 6 6 0 1 0 1 1 -1");
            Kit.same("refused in a second exchange", Kit.about(wire, CLIENT), "0 6 5 0 1 0 1 1 -1");
            Kit.same("the first session stays", Kit.session(wire, CLIENT), Scene.firstH());
            Kit.same("at the server, too", Kit.session(wire, SERVER), Scene.firstH());
        }
    }

    private static void sessionOfAWrongProof() {
        Kit.sentence("The first H that an end has (the client: if the proof was right) is its SESSION");
        SealedWire before = replied();
        Kit.thrown("before REPLY comes", () -> before.session(CLIENT, 0), Kit.STATE);
        SealedWire wrong = replied();
        wrong.damage(CLIENT, 0, 101, 1);
        refused("a wrong proof", wrong);
        Kit.thrown("no session", () -> wrong.session(CLIENT, 0), Kit.STATE);
        SealedWire right = replied();
        right.come(CLIENT);
        Kit.same("a right one, before NEW comes", Kit.session(right, CLIENT), Scene.firstH());
    }

    private static void sessionIsTheFirst() {
        Kit.sentence("The first H that an end has");
        SealedWire wire = requested();
        Kit.thrown("the server before REQUEST comes", () -> wire.session(SERVER, 0), Kit.STATE);
        wire.come(SERVER);
        Kit.same("as soon as it came", Kit.session(wire, SERVER), Scene.firstH());
        wire.run(50);
        Kit.set(wire, 1, Kit.rising(44, 32));
        wire.begin(SERVER);
        wire.run(50);
        Kit.same("two exchanges", wire.about(CLIENT, 4), 2);
        Kit.same("the server's stays", Kit.session(wire, SERVER), Scene.firstH());
        Kit.same("the client's stays", Kit.session(wire, CLIENT), Scene.firstH());
    }

    private static void sessionBounds() {
        Kit.sentence("IndexOutOfBoundsException when i is not 0 .. 31; IllegalStateException when it has none");
        SealedWire has = Scene.agreed();
        SealedWire none = Scene.ready();
        for (int end : new int[] {Integer.MIN_VALUE, -1, 0, 1, 2, Integer.MAX_VALUE}) {
            for (int i : new int[] {Integer.MIN_VALUE, -1, 0, 31, 32, Integer.MAX_VALUE}) {
                boolean there = end == 0 || end == 1;
                boolean inside = i >= 0 && i <= 31;
                String due = !there ? Kit.NO_SUCH : !inside ? Kit.INDEX : Kit.NONE;
                Kit.thrown("session " + end + ", " + i, () -> has.session(end, i), due);
                Kit.thrown("none: " + end + ", " + i, () -> none.session(end, i),
                        due.equals(Kit.NONE) ? Kit.STATE : due);
            }
        }
    }

    private static void keysAtNew() {
        Kit.sentence("At NEW an end has new keys for what comes");
        SealedWire wire = Scene.agreed();
        byte[] secret = Kit.rising(55, 32);
        Kit.set(wire, 0, secret);
        wire.begin(CLIENT);
        wire.run(3);
        byte[] shared = Scene.shared(secret, Scene.SERVER_SECRET);
        byte[] h = Scene.h(Scene.CLIENT_INIT, Scene.SERVER_INIT, secret, Scene.SERVER_SECRET);
        byte[][] fresh = Scene.keys(SERVER, shared, h, Scene.firstH());
        Kit.send(wire, SERVER, Scene.DATA);
        Kit.same("NEW goes by the old keys", Kit.packet(wire, CLIENT, 1),
                Oracle.hidden(Scene.NEW, Scene.firstKeys(SERVER), 5));
        Kit.same("what is sent then by the new ones", Kit.packet(wire, CLIENT, 2),
                Oracle.hidden(Scene.DATA, fresh, 6));
        Kit.same("REPLY", wire.come(CLIENT), 31);
        Kit.same("NEW", wire.come(CLIENT), 21);
        Kit.same("DATA", wire.come(CLIENT), 94);
        Kit.same("the client's NEW goes by its old keys", Kit.packet(wire, SERVER, 0),
                Oracle.hidden(Scene.NEW, Scene.firstKeys(CLIENT), 5));
        Kit.same("it comes", wire.come(SERVER), 21);
    }

    private static void overAtNew() {
        Kit.sentence("and the exchange is over at it");
        SealedWire wire = replied();
        wire.come(CLIENT);
        Kit.same("the client has sent NEW", Kit.about(wire, CLIENT), "1 3 2 0 0 1 1 1 -1");
        Kit.same("NEW comes", wire.come(CLIENT), 21);
        Kit.same("it is over at the client", Kit.about(wire, CLIENT), "1 3 3 0 1 0 0 0 -1");
        Kit.same("not at the server", Kit.about(wire, SERVER), "1 3 2 0 0 1 1 1 -1");
        Kit.same("NEW comes", wire.come(SERVER), 21);
        Kit.same("there, too", Kit.about(wire, SERVER), "1 3 3 0 1 0 0 0 -1");
    }

    private static void beginPlaces() {
        Kit.sentence("IllegalStateException when it ended, or has sent INIT since its last exchange was over");
        SealedWire wire = Scene.ready();
        Kit.thrown("at first", () -> wire.begin(CLIENT), Kit.NONE);
        Kit.thrown("INIT was sent", () -> wire.begin(CLIENT), Kit.STATE);
        wire.come(SERVER);
        Kit.thrown("INIT was sent as an answer", () -> wire.begin(SERVER), Kit.STATE);
        wire.come(CLIENT);
        Kit.thrown("REQUEST was sent", () -> wire.begin(CLIENT), Kit.STATE);
        wire.come(SERVER);
        Kit.thrown("the server has sent NEW", () -> wire.begin(SERVER), Kit.STATE);
        wire.come(CLIENT);
        Kit.thrown("the client has sent NEW", () -> wire.begin(CLIENT), Kit.STATE);
        wire.come(CLIENT);
        Kit.same("nothing was sent by all that", wire.about(CLIENT, 1) + wire.about(SERVER, 1), 6);
        Kit.thrown("it is over at the client", () -> wire.begin(CLIENT), Kit.NONE);
        Kit.thrown("not at the server", () -> wire.begin(SERVER), Kit.STATE);
        wire.come(SERVER);
        Kit.thrown("it is over there, too", () -> wire.begin(SERVER), Kit.NONE);
        wire.run(50);
        Kit.same("two exchanges", wire.about(CLIENT, 4) + wire.about(SERVER, 4), 4);
        Kit.send(wire, CLIENT, Scene.END);
        Kit.thrown("the client ended", () -> wire.begin(CLIENT), Kit.STATE);
        Kit.thrown("the server not yet", () -> wire.begin(SERVER), Kit.NONE);
        wire.come(SERVER);
        Kit.thrown("the server ended", () -> wire.begin(SERVER), Kit.STATE);
    }

    private static void beginOfNoEnd() {
        Kit.sentence("NoSuchElementException: there is no such end");
        for (int end : new int[] {Integer.MIN_VALUE, -1, 0, 1, 2, 3, Integer.MAX_VALUE}) {
            SealedWire wire = Scene.ready();
            Kit.thrown("begin(" + end + ")", () -> wire.begin(end), end == 0 || end == 1 ? Kit.NONE : Kit.NO_SUCH);
        }
    }
}
