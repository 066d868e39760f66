import java.util.Arrays;

/** Promises 3 (what the rows that are set do), 9 (begin) and 17 (session), and the exchanges of the terms. */
public final class ExchangeTest {
    private static final int CLIENT = Scene.CLIENT;
    private static final int SERVER = Scene.SERVER;

    public static void main(String[] args) {
        stepByStep();
        whoeverBegins();
        secondExchange();
        secretsAreTakenInTime();
        othersCountAtOnce();
        untrusted();
        wrongProof();
        damagedRows();
        beginThrows();
        sessionThrows();
        Kit.finish();
    }

    private static void stepByStep() {
        SealedWire wire = Scene.ready();
        byte[] clientRow = Oracle.publicRow(Scene.CLIENT_SECRET);
        byte[] serverRow = Oracle.publicRow(Scene.SERVER_SECRET);
        byte[] h = Scene.firstH();
        byte[] proof = Oracle.hash(Kit.join(Oracle.multiply(Scene.HOST_SECRET, clientRow), h));

        wire.begin(CLIENT);
        Kit.same("INIT", Kit.packet(wire, SERVER, 0), Oracle.plain(Scene.CLIENT_INIT));
        Kit.same("the client began", Kit.about(wire, CLIENT), "1 1 0 0 0 0 1 0 -1");
        Kit.same("INIT comes", wire.come(SERVER), 20);
        Kit.same("the server's INIT", Kit.packet(wire, CLIENT, 0), Oracle.plain(Scene.SERVER_INIT));
        Kit.same("the server after INIT", Kit.about(wire, SERVER), "1 1 1 0 0 0 1 1 -1");
        Kit.same("INIT comes", wire.come(CLIENT), 20);
        Kit.same("REQUEST", Kit.packet(wire, SERVER, 0), Oracle.plain(Kit.join(Kit.bytes(30), clientRow)));
        Kit.same("REQUEST comes", wire.come(SERVER), 30);
        Kit.same("REPLY", Kit.packet(wire, CLIENT, 0),
                Oracle.plain(Kit.join(Kit.bytes(31), Scene.HOST_ROW, serverRow, proof)));
        Kit.same("NEW goes without keys", Kit.packet(wire, CLIENT, 1), Oracle.plain(Scene.NEW));
        Kit.same("the server's session", Kit.session(wire, SERVER), h);
        Kit.thrown("the client has none yet", () -> wire.session(CLIENT, 0), Kit.STATE);

        Kit.send(wire, SERVER, Scene.DATA);
        Kit.same("the server's keys", Kit.packet(wire, CLIENT, 2),
                Oracle.hidden(Scene.DATA, Scene.firstKeys(SERVER), 3));
        Kit.same("REPLY comes", wire.come(CLIENT), 31);
        Kit.same("the client's session", Kit.session(wire, CLIENT), h);
        Kit.same("the client's NEW", Kit.packet(wire, SERVER, 0), Oracle.plain(Scene.NEW));
        Kit.send(wire, CLIENT, Scene.DATA);
        Kit.same("the client's keys", Kit.packet(wire, SERVER, 1),
                Oracle.hidden(Scene.DATA, Scene.firstKeys(CLIENT), 3));
        Kit.same("the client is not over", Kit.about(wire, CLIENT), "1 4 2 0 0 2 1 1 -1");
        Kit.same("NEW comes", wire.come(CLIENT), 21);
        Kit.same("the client is over", Kit.about(wire, CLIENT), "1 4 3 0 1 1 0 0 -1");
        Kit.same("DATA comes", wire.come(CLIENT), 94);
        Kit.same("NEW comes", wire.come(SERVER), 21);
        Kit.same("DATA comes", wire.come(SERVER), 94);
        Kit.same("the server is over", Kit.about(wire, SERVER), "1 4 4 3 1 0 0 0 -1");
        Kit.same("what the client got", Kit.got(wire, CLIENT), Kit.bytes(5, 6, 7));
    }

    private static void whoeverBegins() {
        for (int who = 0; who < 3; who++) {
            SealedWire wire = Scene.ready();
            if (who != SERVER) {
                wire.begin(CLIENT);
            }
            if (who != CLIENT) {
                wire.begin(SERVER);
            }
            Kit.same("six packets", wire.run(50), 6);
            Kit.same("the client", Kit.about(wire, CLIENT), "1 3 3 0 1 0 0 0 -1");
            Kit.same("the server", Kit.about(wire, SERVER), "1 3 3 0 1 0 0 0 -1");
            Kit.same("the client's session", Kit.session(wire, CLIENT), Scene.firstH());
            Kit.same("the server's session", Kit.session(wire, SERVER), Scene.firstH());
        }
    }

    /** The session stays the first one, keys and H are new, the sequence numbers go on. */
    private static void secondExchange() {
        SealedWire wire = Scene.agreed();
        byte[] clientSecret = Kit.rising(77, 32);
        byte[] cookie = Kit.rising(33, 8);
        Kit.set(wire, 0, clientSecret);
        Kit.set(wire, 4, cookie);
        byte[] init = Kit.join(Kit.bytes(20), cookie);
        wire.begin(SERVER);
        Kit.same("INIT goes by the old keys", Kit.packet(wire, CLIENT, 0),
                Oracle.hidden(Scene.SERVER_INIT, Scene.firstKeys(SERVER), 3));
        Kit.same("six packets", wire.run(50), 6);
        byte[] shared = Scene.shared(clientSecret, Scene.SERVER_SECRET);
        byte[] h = Scene.h(init, Scene.SERVER_INIT, clientSecret, Scene.SERVER_SECRET);
        for (int end = 0; end < 2; end++) {
            Kit.same("the session stays", Kit.session(wire, end), Scene.firstH());
            Kit.same("two are over", wire.about(end, 4), 2);
            Kit.send(wire, end, Scene.DATA);
            Kit.same("new keys of " + end, Kit.packet(wire, 1 - end, 0),
                    Oracle.hidden(Scene.DATA, Scene.keys(end, shared, h, Scene.firstH()), 6));
        }
        Kit.same("data", wire.run(50), 2);
        Kit.same("the server got it", Kit.got(wire, SERVER), Kit.bytes(5, 6, 7));
    }

    private static void secretsAreTakenInTime() {
        SealedWire wire = Scene.ready();
        wire.begin(CLIENT);
        wire.come(SERVER);
        wire.come(CLIENT);
        Kit.set(wire, 0, Kit.rising(90, 32));
        byte[] row = Oracle.publicRow(Scene.CLIENT_SECRET);
        Kit.same("REQUEST has the old row", Kit.packet(wire, SERVER, 0), Oracle.plain(Kit.join(Kit.bytes(30), row)));
        wire.come(SERVER);
        Kit.set(wire, 1, Kit.rising(91, 32));
        Kit.same("the rest", wire.run(50), 3);
        Kit.same("the client lives", wire.about(CLIENT, 0), 1);
        Kit.same("the old secrets count", Kit.session(wire, CLIENT), Scene.firstH());
        Kit.same("at both ends", Kit.session(wire, SERVER), Scene.firstH());

        wire.begin(CLIENT);
        wire.come(SERVER);
        Kit.set(wire, 1, Kit.rising(92, 32));
        wire.come(CLIENT);
        wire.come(SERVER);
        byte[] reply = Oracle.xor(Kit.packet(wire, CLIENT, 0), Scene.firstKeys(SERVER), 4);
        Kit.same("the server takes its secret at REQUEST", Arrays.copyOfRange(reply, 38, 70),
                Oracle.publicRow(Kit.rising(92, 32)));
    }

    private static void othersCountAtOnce() {
        SealedWire wire = Scene.ready();
        wire.begin(CLIENT);
        Kit.set(wire, 4, Kit.rising(1, 8));
        Kit.set(wire, 5, Kit.rising(2, 8));
        wire.come(SERVER);
        byte[] serverInit = Kit.join(Kit.bytes(20), Kit.rising(2, 8));
        Kit.same("the cookie of now", Kit.packet(wire, CLIENT, 0), Oracle.plain(serverInit));
        Kit.set(wire, 5, Kit.rising(3, 8));
        Kit.set(wire, 2, new byte[32]);
        Kit.set(wire, 3, new byte[32]);
        wire.come(CLIENT);
        Kit.set(wire, 2, Scene.HOST_SECRET);
        wire.come(SERVER);
        Kit.set(wire, 2, new byte[32]);
        Kit.set(wire, 3, Scene.HOST_ROW);
        wire.run(50);
        byte[] h = Scene.h(Scene.CLIENT_INIT, serverInit, Scene.CLIENT_SECRET, Scene.SERVER_SECRET);
        Kit.same("INIT counts as it was sent", Kit.session(wire, CLIENT), h);
        Kit.same("at the server, too", Kit.session(wire, SERVER), h);
    }

    private static void untrusted() {
        byte[] almost = Scene.HOST_ROW.clone();
        almost[31] ^= (byte) 128;
        for (byte[] row : new byte[][] {new byte[32], almost}) {
            SealedWire wire = Scene.ready();
            Kit.set(wire, 3, row);
            refused("untrusted", wire, 0);
            Kit.same("the proof was right", Kit.session(wire, CLIENT), Scene.firstH());
            Kit.same("END comes behind REQUEST", wire.come(SERVER), 1);
            Kit.same("the server ended", wire.about(SERVER, 0), 0);
        }
    }

    private static void wrongProof() {
        for (int i = 0; i < 32; i++) {
            SealedWire wire = Scene.ready();
            refused("proof", wire, 70 + i);
            Kit.thrown("no session", () -> wire.session(CLIENT, 0), Kit.STATE);
        }
    }

    /** An exchange up to REPLY, of which one byte is damaged (none for 0), and which the client refuses. */
    private static void refused(String what, SealedWire wire, int damaged) {
        wire.begin(CLIENT);
        wire.come(SERVER);
        wire.come(CLIENT);
        wire.come(SERVER);
        if (damaged > 0) {
            wire.damage(CLIENT, 0, damaged, 1);
        }
        Kit.same(what + ": REPLY comes all the same", wire.come(CLIENT), 31);
        Kit.same(what + ": the client ended", Kit.about(wire, CLIENT), "0 3 2 0 0 1 1 1 -1");
        Kit.same(what + ": END", Kit.packet(wire, SERVER, 0), Oracle.plain(Scene.END));
        Kit.same(what + ": what comes then is gone", wire.come(CLIENT), -4);
        Kit.same(what + ": and not counted", wire.about(CLIENT, 2), 2);
        Kit.same(what + ": the server has its session", Kit.session(wire, SERVER), Scene.firstH());
    }

    /** The proof covers both INITs and all the rows: whichever is damaged on the wire, the client ends. */
    private static void damagedRows() {
        int[] damagedAt = {0, 1, 2, 3, 3};
        int[] bytes = {6, 13, 37, 6, 69};
        for (int i = 0; i < damagedAt.length; i++) {
            SealedWire wire = Scene.ready();
            wire.begin(CLIENT);
            for (int step = 0; step < 4; step++) {
                int to = step % 2 == 0 ? SERVER : CLIENT;
                if (step == damagedAt[i]) {
                    wire.damage(to, 0, bytes[i], 4);
                }
                wire.come(to);
            }
            Kit.same("the client ended for damage " + i, wire.about(CLIENT, 0), 0);
            Kit.thrown("and has no session", () -> wire.session(CLIENT, 5), Kit.STATE);
        }
    }

    private static void beginThrows() {
        SealedWire wire = Scene.ready();
        for (int end : new int[] {-1, 2, Integer.MIN_VALUE, Integer.MAX_VALUE}) {
            Kit.thrown("begin(" + end + ")", () -> wire.begin(end), Kit.NO_SUCH);
        }
        wire.begin(CLIENT);
        Kit.thrown("begin again", () -> wire.begin(CLIENT), Kit.STATE);
        Kit.same("nothing more was sent", wire.about(SERVER, 5), 1);
        wire.come(SERVER);
        Kit.thrown("begin when INIT was answered", () -> wire.begin(SERVER), Kit.STATE);
        wire.run(2);
        wire.come(CLIENT);
        Kit.thrown("begin after NEW was sent, before it came", () -> wire.begin(CLIENT), Kit.STATE);
        wire.come(CLIENT);
        Kit.thrown("begin when the client's exchange is over", () -> wire.begin(CLIENT), Kit.NONE);
        Kit.thrown("the server's is not", () -> wire.begin(SERVER), Kit.STATE);
        wire.run(50);
        Kit.same("two exchanges", wire.about(SERVER, 4), 2);
        Kit.send(wire, CLIENT, Scene.END);
        Kit.thrown("begin after the end", () -> wire.begin(CLIENT), Kit.STATE);
        wire.come(SERVER);
        Kit.thrown("begin after the end", () -> wire.begin(SERVER), Kit.STATE);
    }

    private static void sessionThrows() {
        for (SealedWire wire : new SealedWire[] {Scene.ready(), Scene.agreed()}) {
            for (int i : new int[] {-1, 32, Integer.MIN_VALUE, Integer.MAX_VALUE}) {
                Kit.thrown("session of " + i, () -> wire.session(CLIENT, i), Kit.INDEX);
                Kit.thrown("session of no end", () -> wire.session(2, i), Kit.NO_SUCH);
                Kit.thrown("session of no end", () -> wire.session(-1, i), Kit.NO_SUCH);
            }
        }
        SealedWire fresh = Scene.ready();
        Kit.thrown("no session", () -> fresh.session(SERVER, 31), Kit.STATE);
    }
}
