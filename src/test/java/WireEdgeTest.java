/** Twelve packets to an end, and what becomes of an end for whose packet there is no room (promises 9 to 12, 16, 17). */
public final class WireEdgeTest {
    private static final int CLIENT = Scene.CLIENT;
    private static final int SERVER = Scene.SERVER;

    public static void main(String[] args) {
        sendOnAFullWire();
        eachEndHasItsOwn();
        roomAgain();
        toAnEndThatEnded();
        beginOnAFullWire();
        lostInitOfAnAnswer();
        lostRequest();
        lostReplyAndNew();
        lostNewOfTheClient();
        lostEndOfABrokenOne();
        lostEndOfAMisplacedOne();
        lostEndOfARefusal();
        lostEndOfSend();
        lostUnknown();
        nothingToSend();
        runBounds();
        runOfFifty();
        runInTurn();
        runToEndsThatEnded();
        Kit.finish();
    }

    private static void fill(SealedWire wire, int from, int count) {
        for (int i = 0; i < count; i++) {
            Kit.send(wire, from, Kit.bytes(2));
        }
    }

    /** Of an end whose packet is lost: it ended, and has sent no more than before. */
    private static void lost(String what, SealedWire wire, int end, int sent) {
        Kit.same(what + ": it ended", wire.about(end, 0), 0);
        Kit.same(what + ": it is not counted", wire.about(end, 1), sent);
        Kit.same(what + ": END is not sent", wire.about(1 - end, 5), 12);
        for (int k = 0; k < 12; k++) {
            Kit.same(what + ": packet " + k + " is no END", wire.packet(1 - end, k, 5) == 1, false);
        }
    }

    private static void sendOnAFullWire() {
        Kit.sentence("To each leads a row of at most 12 PACKETS");
        for (int end = 0; end < 2; end++) {
            int who = end;
            SealedWire wire = new SealedWire();
            fill(wire, end, 11);
            Kit.type(wire, Scene.DATA);
            Kit.thrown("the twelfth", () -> wire.send(who), Kit.NONE);
            Kit.same("it is there", Kit.packet(wire, 1 - end, 11), Oracle.plain(Scene.DATA));
            Kit.same("the end lives", Kit.about(wire, end), "1 12 0 0 0 0 0 0 -1");
            Kit.type(wire, Scene.DATA);
            Kit.thrown("a thirteenth", () -> wire.send(who), Kit.NONE);
            lost("a thirteenth", wire, end, 12);
            Kit.same("the last is still the twelfth", Kit.packet(wire, 1 - end, 11), Oracle.plain(Scene.DATA));
            Kit.type(wire, Scene.DATA);
            Kit.thrown("a fourteenth", () -> wire.send(who), Kit.STATE);
            Kit.same("all twelve come", wire.run(50), 12);
            Kit.same("the other end lives", wire.about(1 - end, 0), 1);
        }
    }

    private static void eachEndHasItsOwn() {
        Kit.sentence("To each leads a row of at most 12 PACKETS");
        SealedWire wire = new SealedWire();
        fill(wire, CLIENT, 12);
        fill(wire, SERVER, 12);
        Kit.same("both live", wire.about(CLIENT, 0) + wire.about(SERVER, 0), 2);
        Kit.same("twelve to each", wire.about(CLIENT, 5) + wire.about(SERVER, 5), 24);
        Kit.same("all come", wire.run(50), 24);
    }

    private static void roomAgain() {
        Kit.sentence("there are 12 packets to the other one already");
        SealedWire wire = new SealedWire();
        fill(wire, CLIENT, 12);
        for (int i = 0; i < 14; i++) {
            Kit.same("one comes", wire.come(SERVER), 2);
            Kit.send(wire, CLIENT, Kit.bytes(2, i));
            Kit.same("there was room again", wire.about(CLIENT, 0), 1);
            Kit.same("twelve", wire.about(SERVER, 5), 12);
            Kit.same("it is the last", wire.packet(SERVER, 11, 6), i);
        }
    }

    /** What leads to an end that ended stays on the wire until it comes, and takes up room. */
    private static void toAnEndThatEnded() {
        Kit.sentence("An end that ended sends nothing more, and what comes to it is gone (and not counted)");
        SealedWire wire = new SealedWire();
        fill(wire, SERVER, 1);
        Kit.send(wire, CLIENT, Scene.END);
        fill(wire, SERVER, 11);
        Kit.same("twelve to an end that ended", Kit.about(wire, CLIENT), "0 1 0 0 0 12 0 0 -1");
        Kit.same("they can be looked at", Kit.packet(wire, CLIENT, 11), Oracle.plain(Kit.bytes(2)));
        wire.damage(CLIENT, 11, 5, 2 ^ 94);
        Kit.same("and damaged", wire.packet(CLIENT, 11, 5), 94);
        Kit.same("the first is gone", wire.come(CLIENT), -4);
        fill(wire, SERVER, 1);
        Kit.same("there was room again", wire.about(SERVER, 0), 1);
        fill(wire, SERVER, 1);
        lost("a thirteenth", wire, SERVER, 13);
    }

    /** END is not sent, but INIT is lost, and not counted: it has been begun, and 6 of about tells so. */
    private static void beginOnAFullWire() {
        Kit.sentence("the packet is lost, and it ends (END is not sent); it is not counted");
        for (int end = 0; end < 2; end++) {
            int who = end;
            SealedWire room = Scene.ready();
            fill(room, end, 11);
            Kit.thrown("room for INIT", () -> room.begin(who), Kit.NONE);
            Kit.same("it lives", Kit.about(room, end), "1 12 0 0 0 0 1 0 -1");
            SealedWire wire = Scene.ready();
            fill(wire, end, 12);
            Kit.thrown("no room", () -> wire.begin(who), Kit.NONE);
            lost("INIT", wire, end, 12);
            Kit.same("the exchange was begun", Kit.about(wire, end), "0 12 0 0 0 0 1 0 -1");
            Kit.thrown("begin again", () -> wire.begin(who), Kit.STATE);
        }
    }

    private static void lostInitOfAnAnswer() {
        Kit.sentence("it sends INIT first, if it has not");
        SealedWire room = Scene.ready();
        room.begin(CLIENT);
        fill(room, SERVER, 11);
        Kit.same("INIT comes", room.come(SERVER), 20);
        Kit.same("room for its own", Kit.about(room, SERVER), "1 12 1 0 0 0 1 1 -1");
        SealedWire wire = Scene.ready();
        wire.begin(CLIENT);
        fill(wire, SERVER, 12);
        Kit.same("INIT comes all the same", wire.come(SERVER), 20);
        lost("the server's INIT", wire, SERVER, 12);
        Kit.same("it got INIT", Kit.about(wire, SERVER), "0 12 1 0 0 0 1 1 -1");
        SealedWire had = Scene.ready();
        had.begin(SERVER);
        had.begin(CLIENT);
        fill(had, SERVER, 11);
        Kit.same("INIT comes", had.come(SERVER), 20);
        Kit.same("it had sent its own", had.about(SERVER, 0), 1);
    }

    private static void lostRequest() {
        Kit.sentence("When an end must send and there are 12 packets to the other one already");
        for (int room = 0; room <= 2; room++) {
            SealedWire wire = Scene.ready();
            wire.begin(SERVER);
            fill(wire, CLIENT, 12 - room);
            Kit.same("INIT comes", wire.come(CLIENT), 20);
            if (room == 2) {
                Kit.same("room for INIT and REQUEST", wire.packet(SERVER, 11, 5), 30);
                Kit.same("it lives", wire.about(CLIENT, 0), 1);
            } else {
                lost("room for " + room, wire, CLIENT, 12);
                Kit.same("the last packet", wire.packet(SERVER, 11, 5), room == 1 ? 20 : 2);
            }
            Kit.same("INIT went both ways", wire.about(CLIENT, 6) + wire.about(CLIENT, 7), 2);
        }
        SealedWire begun = Scene.ready();
        begun.begin(CLIENT);
        begun.come(SERVER);
        fill(begun, CLIENT, 12);
        Kit.same("INIT comes", begun.come(CLIENT), 20);
        lost("REQUEST alone", begun, CLIENT, 13);
    }

    private static void lostReplyAndNew() {
        Kit.sentence("(What it had to do besides, as to make keys and its SESSION, is done, but it sends nothing.)");
        for (int room = 0; room <= 2; room++) {
            SealedWire wire = Scene.ready();
            wire.begin(CLIENT);
            wire.run(2);
            fill(wire, SERVER, 12 - room);
            Kit.thrown("no session yet", () -> wire.session(SERVER, 0), Kit.STATE);
            Kit.same("REQUEST comes", wire.come(SERVER), 30);
            if (room == 2) {
                Kit.same("room for REPLY and NEW", wire.packet(CLIENT, 11, 5), 21);
                Kit.same("it lives", wire.about(SERVER, 0), 1);
            } else {
                lost("room for " + room, wire, SERVER, 13);
                Kit.same("the last packet", wire.packet(CLIENT, 11, 5), room == 1 ? 31 : 2);
            }
            Kit.same("the session is made", Kit.session(wire, SERVER), Scene.firstH());
        }
        SealedWire wire = Scene.ready();
        wire.begin(CLIENT);
        wire.run(2);
        fill(wire, SERVER, 11);
        wire.come(SERVER);
        Kit.same("the client takes REPLY all the same", wire.run(24), 13);
        Kit.same("and waits for NEW", Kit.about(wire, CLIENT), "1 3 13 0 0 0 1 1 -1");
    }

    private static void lostNewOfTheClient() {
        Kit.sentence("(What it had to do besides, as to make keys and its SESSION, is done, but it sends nothing.)");
        for (int room = 0; room <= 1; room++) {
            SealedWire wire = Scene.ready();
            wire.begin(CLIENT);
            wire.run(3);
            fill(wire, CLIENT, 12 - room);
            Kit.same("REPLY comes", wire.come(CLIENT), 31);
            if (room == 1) {
                Kit.same("NEW", wire.packet(SERVER, 11, 5), 21);
                Kit.same("it lives", wire.about(CLIENT, 0), 1);
            } else {
                lost("NEW", wire, CLIENT, 14);
            }
            Kit.same("the session is made", Kit.session(wire, CLIENT), Scene.firstH());
        }
    }

    private static void lostEndOfABrokenOne() {
        Kit.sentence("is it broken, the end sends END and ends");
        for (int room = 0; room <= 1; room++) {
            SealedWire wire = new SealedWire();
            Kit.send(wire, CLIENT, Scene.DATA);
            wire.damage(SERVER, 0, 3, 1);
            fill(wire, SERVER, 12 - room);
            Kit.same("broken", wire.come(SERVER), -2);
            if (room == 1) {
                Kit.same("END", wire.packet(CLIENT, 11, 5), 1);
                Kit.same("it ended", Kit.about(wire, SERVER), "0 12 1 0 0 0 0 0 -1");
            } else {
                lost("END", wire, SERVER, 12);
            }
        }
    }

    private static void lostEndOfAMisplacedOne() {
        Kit.sentence("the end sends END, and ends");
        for (int room = 0; room <= 1; room++) {
            SealedWire wire = new SealedWire();
            Scene.smuggle(wire, CLIENT, Scene.NEW);
            fill(wire, SERVER, 12 - room);
            Kit.same("not in its place", wire.come(SERVER), -3);
            if (room == 1) {
                Kit.same("END", wire.packet(CLIENT, 11, 5), 1);
                Kit.same("it ended", Kit.about(wire, SERVER), "0 12 1 0 0 0 0 0 -1");
            } else {
                lost("END", wire, SERVER, 12);
            }
        }
    }

    private static void lostEndOfARefusal() {
        Kit.sentence("it sends END and ENDS (come answers 31 all the same)");
        for (int room = 0; room <= 1; room++) {
            SealedWire wire = Scene.ready();
            Kit.set(wire, 3, new byte[32]);
            wire.begin(CLIENT);
            wire.run(3);
            fill(wire, CLIENT, 12 - room);
            Kit.same("REPLY comes", wire.come(CLIENT), 31);
            if (room == 1) {
                Kit.same("END", wire.packet(SERVER, 11, 5), 1);
                Kit.same("it ended", wire.about(CLIENT, 0), 0);
            } else {
                lost("END", wire, CLIENT, 14);
            }
        }
    }

    private static void lostEndOfSend() {
        Kit.sentence("(With the first byte 1 it ends.)");
        for (int room = 0; room <= 1; room++) {
            SealedWire wire = new SealedWire();
            fill(wire, CLIENT, 12 - room);
            Kit.type(wire, Scene.END);
            Kit.thrown("END", () -> wire.send(CLIENT), Kit.NONE);
            Kit.same("it ended", Kit.about(wire, CLIENT), "0 12 0 0 0 0 0 0 -1");
            Kit.same("the last packet", wire.packet(SERVER, 11, 5), room == 1 ? 1 : 2);
        }
    }

    private static void lostUnknown() {
        Kit.sentence("Any other first byte: it sends UNKNOWN");
        for (int room = 0; room <= 1; room++) {
            SealedWire wire = new SealedWire();
            Kit.send(wire, CLIENT, Kit.bytes(99));
            fill(wire, SERVER, 12 - room);
            Kit.same("it comes all the same", wire.come(SERVER), 99);
            if (room == 1) {
                Kit.same("UNKNOWN", wire.packet(CLIENT, 11, 5), 3);
                Kit.same("it lives", Kit.about(wire, SERVER), "1 12 1 0 0 0 0 0 -1");
            } else {
                lost("UNKNOWN", wire, SERVER, 12);
            }
        }
    }

    /** Only an end that must send finds no room. */
    private static void nothingToSend() {
        Kit.sentence("When an end must send and there are 12 packets to the other one already");
        SealedWire wire = Scene.agreed();
        for (byte[] payload : new byte[][] {Scene.DATA, Scene.IGNORE, Kit.bytes(3, 0, 0, 0, 7)}) {
            Kit.send(wire, CLIENT, payload);
        }
        fill(wire, SERVER, 12);
        Kit.same("DATA", wire.come(SERVER), 94);
        Kit.same("IGNORE", wire.come(SERVER), 2);
        Kit.same("UNKNOWN", wire.come(SERVER), 3);
        Kit.same("the server lives", Kit.about(wire, SERVER), "1 15 6 3 1 0 0 0 7");
        Kit.same("none", wire.come(SERVER), -1);
        Kit.same("it lives still", wire.about(SERVER, 0), 1);

        SealedWire renewed = Scene.ready();
        renewed.begin(CLIENT);
        renewed.run(4);
        fill(renewed, SERVER, 11);
        Kit.same("twelve to the client", renewed.about(CLIENT, 5), 12);
        Kit.same("NEW", renewed.come(SERVER), 21);
        Kit.same("the server lives", renewed.about(SERVER, 0), 1);
        Kit.same("its exchange is over", renewed.about(SERVER, 4), 1);
    }

    private static void runBounds() {
        Kit.sentence("IllegalArgumentException when n is not 0 .. 50");
        SealedWire wire = new SealedWire();
        fill(wire, CLIENT, 3);
        for (int n : new int[] {Integer.MIN_VALUE, -1, 51, 52, Integer.MAX_VALUE}) {
            Kit.thrown("run(" + n + ")", () -> wire.run(n), Kit.ARGUMENT);
            Kit.same("nothing came", wire.about(SERVER, 2), 0);
        }
        Kit.same("run(0)", wire.run(0), 0);
        Kit.same("nothing came", wire.about(SERVER, 2), 0);
        Kit.same("run(1)", wire.run(1), 1);
        Kit.same("run(50)", wire.run(50), 2);
        Kit.same("run(50) of none", wire.run(50), 0);
    }

    /** 24 packets, an answer to each but one, and an exchange: 51 packets come, of which run(50) leaves one. */
    private static void runOfFifty() {
        Kit.sentence("until there are none, or n came");
        for (int first : new int[] {50, 49}) {
            SealedWire wire = Scene.ready();
            fill(wire, CLIENT, 1);
            for (int i = 0; i < 10; i++) {
                Kit.send(wire, CLIENT, Kit.bytes(77));
            }
            wire.begin(CLIENT);
            for (int i = 0; i < 12; i++) {
                Kit.send(wire, SERVER, Kit.bytes(78));
            }
            Kit.same("run(" + first + ")", wire.run(first), first);
            Kit.same("some are left", wire.about(CLIENT, 5) + wire.about(SERVER, 5), 51 - first);
            Kit.same("the rest", wire.run(50), 51 - first);
            Kit.same("the exchange is over", wire.about(CLIENT, 4) + wire.about(SERVER, 4), 2);
        }
    }

    private static void runInTurn() {
        Kit.sentence("to the server first, then to the client, in turn (an end to which there is none is passed)");
        for (int n = 0; n <= 6; n++) {
            SealedWire both = new SealedWire();
            fill(both, CLIENT, 3);
            fill(both, SERVER, 3);
            Kit.same("run(" + n + ")", both.run(n), n);
            Kit.same("to the server", both.about(SERVER, 2), (n + 1) / 2);
            Kit.same("to the client", both.about(CLIENT, 2), n / 2);
            SealedWire one = new SealedWire();
            fill(one, SERVER, 6);
            Kit.same("run(" + n + ")", one.run(n), n);
            Kit.same("the server is passed", one.about(CLIENT, 2), n);
        }
        Kit.sentence("each run() begins with the server");
        SealedWire wire = new SealedWire();
        fill(wire, CLIENT, 3);
        fill(wire, SERVER, 3);
        wire.run(1);
        wire.run(1);
        Kit.same("twice to the server", wire.about(SERVER, 2) * 10 + wire.about(CLIENT, 2), 20);
    }

    private static void runToEndsThatEnded() {
        Kit.sentence("those to an end that ended count, too");
        SealedWire wire = new SealedWire();
        fill(wire, CLIENT, 3);
        fill(wire, SERVER, 2);
        Kit.send(wire, SERVER, Scene.END);
        Kit.same("two of them", wire.run(2), 2);
        Kit.same("one was gone, one came", wire.about(SERVER, 2) * 10 + wire.about(CLIENT, 2), 1);
        Kit.same("the others", wire.run(50), 4);
        Kit.same("END came", Kit.about(wire, CLIENT), "0 3 3 0 0 0 0 0 -1");
        Kit.same("nothing came to the server", Kit.about(wire, SERVER), "0 3 0 0 0 0 0 0 -1");
    }
}
