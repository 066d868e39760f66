/** Promises 11 (come), 12 (run) and 16 (about): what each message does, in its place and out of it. */
public final class ComeTest {
    private static final int CLIENT = Scene.CLIENT;
    private static final int SERVER = Scene.SERVER;

    public static void main(String[] args) {
        comeThrows();
        none();
        endAndAfter();
        ignoreAndUnknown();
        notKnown();
        sizes();
        places();
        dataAmidAnExchange();
        dataLimit();
        run();
        about();
        Kit.finish();
    }

    private static void comeThrows() {
        SealedWire wire = new SealedWire();
        for (int end : new int[] {-1, 2, Integer.MIN_VALUE, Integer.MAX_VALUE}) {
            Kit.thrown("come(" + end + ")", () -> wire.come(end), Kit.NO_SUCH);
        }
    }

    private static void none() {
        SealedWire wire = new SealedWire();
        Kit.same("none", wire.come(CLIENT), -1);
        Kit.send(wire, CLIENT, Scene.END);
        Kit.same("none to an end that ended", wire.come(CLIENT), -1);
    }

    private static void endAndAfter() {
        SealedWire wire = new SealedWire();
        Kit.send(wire, SERVER, Scene.DATA);
        Kit.send(wire, SERVER, Kit.rising(1, 200));
        Kit.send(wire, CLIENT, Scene.DATA);
        Kit.same("END of 200 bytes, sent when it ended", wire.about(SERVER, 0), 0);
        Kit.same("to the server that had ended", wire.come(SERVER), -4);
        Kit.same("it is not counted", Kit.about(wire, SERVER), "0 2 0 0 0 0 0 0 -1");
        Kit.same("DATA before END", wire.come(CLIENT), 94);
        Kit.same("END", wire.come(CLIENT), 1);
        Kit.same("the client ended, and sent nothing", Kit.about(wire, CLIENT), "0 1 2 3 0 0 0 0 -1");
    }

    private static void ignoreAndUnknown() {
        SealedWire wire = new SealedWire();
        byte[][] payloads = {
            Kit.bytes(3, 1, 2, 3, 4), Kit.bytes(2), Kit.bytes(3, 0, 0, 0, 0), Kit.bytes(3, 255, 255, 255, 254),
            Kit.bytes(3), Kit.bytes(3, 0, 0, 0, 9), Kit.bytes(3, 0, 0, 0), Kit.bytes(3, 127, 0, 0, 1),
            Kit.bytes(3, 0, 0, 0, 1, 0), Kit.rising(2, 200), Kit.rising(3, 200),
        };
        int[] unknown = {0x01020304, 0x01020304, 0, -2, -1, 9, -1, 0x7F000001, -1, -1, -1};
        for (int i = 0; i < payloads.length; i++) {
            Kit.send(wire, CLIENT, payloads[i]);
            Kit.same("it comes", wire.come(SERVER), payloads[i][0]);
            Kit.same("the last UNKNOWN after " + i, wire.about(SERVER, 8), unknown[i]);
            Kit.same("nothing is sent", wire.about(CLIENT, 5), 0);
        }
        Kit.same("the server lives", wire.about(SERVER, 0), 1);
    }

    private static void notKnown() {
        for (int first = 0; first < 256; first++) {
            boolean known = first >= 1 && first <= 3 || first == 20 || first == 21
                    || first == 30 || first == 31 || first == 94;
            if (!known) {
                SealedWire wire = new SealedWire();
                Kit.send(wire, CLIENT, Scene.IGNORE);
                Kit.send(wire, CLIENT, Kit.bytes(first, 1));
                wire.come(SERVER);
                Kit.same("not known " + first, wire.come(SERVER), first);
                Kit.same("UNKNOWN", Kit.packet(wire, CLIENT, 0), Oracle.plain(Kit.bytes(3, 0, 0, 0, 1)));
                Kit.same("it comes", wire.come(CLIENT), 3);
                Kit.same("the number", wire.about(CLIENT, 8), 1);
                Kit.same("it lives", wire.about(SERVER, 0), 1);
            }
        }
    }

    private static void misplaced(String what, SealedWire wire, int end) {
        int came = wire.about(end, 2);
        int sent = wire.about(end, 1);
        int packets = wire.about(1 - end, 5);
        Kit.same(what, wire.come(end), -3);
        Kit.same(what + " ends", wire.about(end, 0), 0);
        Kit.same(what + " counts", wire.about(end, 2), came + 1);
        Kit.same(what + ": END is sent", wire.about(end, 1), sent + 1);
        boolean plain = wire.packet(1 - end, packets, -1) == Oracle.plain(Scene.END).length;
        Kit.same(what + ": END", plain ? wire.packet(1 - end, packets, 5) : 1, 1);
    }

    /** Each message of an exchange with one byte less and one more than it must have. */
    private static void sizes() {
        for (int off = -1; off <= 1; off += 2) {
            SealedWire init = Scene.ready();
            Scene.smuggle(init, CLIENT, Scene.start(Scene.CLIENT_INIT, 9 + off));
            misplaced("INIT of " + (9 + off), init, SERVER);

            SealedWire request = Scene.ready();
            Scene.smuggle(request, CLIENT, Scene.CLIENT_INIT);
            request.come(SERVER);
            Scene.smuggle(request, CLIENT, Scene.start(Kit.bytes(30), 33 + off));
            misplaced("REQUEST of " + (33 + off), request, SERVER);

            SealedWire reply = Scene.ready();
            Scene.smuggle(reply, SERVER, Scene.SERVER_INIT);
            reply.come(CLIENT);
            Scene.smuggle(reply, SERVER, Scene.start(Kit.bytes(31), 97 + off));
            misplaced("REPLY of " + (97 + off), reply, CLIENT);
        }
        SealedWire renewed = Scene.ready();
        renewed.begin(CLIENT);
        renewed.run(4);
        // With one byte less of padding NEW has a second byte.
        Kit.same("the client sent NEW", renewed.packet(SERVER, 0, 5), 21);
        renewed.damage(SERVER, 0, 4, 10 ^ 9);
        misplaced("NEW of 2", renewed, SERVER);
    }

    private static void places() {
        for (int end = 0; end < 2; end++) {
            for (byte[] payload : new byte[][] {Scene.NEW, Scene.start(Kit.bytes(30), 33),
                    Scene.start(Kit.bytes(31), 97)}) {
                SealedWire wire = Scene.ready();
                Scene.smuggle(wire, 1 - end, payload);
                misplaced("out of any exchange " + payload[0], wire, end);
            }
        }
        SealedWire init = Scene.ready();
        init.begin(CLIENT);
        Scene.smuggle(init, CLIENT, Scene.CLIENT_INIT);
        Kit.same("the first INIT", init.come(SERVER), 20);
        misplaced("a second INIT", init, SERVER);

        SealedWire request = Scene.ready();
        request.begin(SERVER);
        Scene.smuggle(request, CLIENT, Scene.start(Kit.bytes(30), 33));
        misplaced("REQUEST at a server that got no INIT", request, SERVER);

        SealedWire atClient = Scene.ready();
        atClient.begin(SERVER);
        atClient.come(CLIENT);
        Scene.smuggle(atClient, SERVER, Scene.start(Kit.bytes(30), 33));
        misplaced("REQUEST at the client", atClient, CLIENT);

        SealedWire again = Scene.ready();
        again.begin(CLIENT);
        again.run(2);
        Scene.smuggle(again, CLIENT, Scene.start(Kit.bytes(30), 33));
        Kit.same("the first REQUEST", again.come(SERVER), 30);
        misplaced("a second REQUEST", again, SERVER);
        placesOfReplyAndNew();
    }

    private static void placesOfReplyAndNew() {
        SealedWire early = Scene.ready();
        early.begin(CLIENT);
        Scene.smuggle(early, SERVER, Scene.start(Kit.bytes(31), 97));
        misplaced("REPLY at a client that sent no REQUEST", early, CLIENT);

        SealedWire atServer = Scene.ready();
        atServer.begin(CLIENT);
        atServer.run(3);
        Scene.smuggle(atServer, CLIENT, Scene.start(Kit.bytes(31), 97));
        misplaced("REPLY at the server", atServer, SERVER);

        SealedWire soon = Scene.ready();
        soon.begin(CLIENT);
        soon.run(2);
        Scene.smuggle(soon, SERVER, Scene.NEW);
        misplaced("NEW at a client that has not sent it", soon, CLIENT);

        SealedWire forged = Scene.ready();
        Scene.smuggle(forged, SERVER, Scene.SERVER_INIT);
        forged.come(CLIENT);
        Scene.smuggle(forged, SERVER, Scene.reply());
        Scene.smuggle(forged, SERVER, Scene.reply());
        Kit.same("the first REPLY", forged.come(CLIENT), 31);
        Kit.same("it is good", forged.about(CLIENT, 0), 1);
        misplaced("a second REPLY", forged, CLIENT);

        SealedWire after = Scene.ready();
        Scene.smuggle(after, SERVER, Scene.SERVER_INIT);
        after.come(CLIENT);
        Scene.smuggle(after, SERVER, Scene.reply());
        Scene.smuggle(after, SERVER, Scene.NEW);
        after.come(CLIENT);
        Kit.same("NEW", after.come(CLIENT), 21);
        Kit.same("the exchange is over, its marks are gone", Kit.about(after, CLIENT), "1 3 3 0 1 0 0 0 -1");
    }

    private static void dataAmidAnExchange() {
        SealedWire wire = Scene.ready();
        Kit.send(wire, SERVER, Scene.DATA);
        wire.begin(CLIENT);
        Kit.same("DATA at a client that sent INIT, and got none", wire.come(CLIENT), 94);
        wire.come(SERVER);
        Scene.smuggle(wire, CLIENT, Scene.DATA);
        misplaced("DATA at a server that got INIT", wire, SERVER);

        SealedWire late = Scene.ready();
        late.begin(CLIENT);
        late.run(4);
        Kit.same("the client's NEW", late.packet(SERVER, 0, 5), 21);
        late.damage(SERVER, 0, 5, 21 ^ 94);
        misplaced("DATA before NEW came", late, SERVER);
    }

    private static void dataLimit() {
        for (int more = 0; more < 2; more++) {
            SealedWire wire = new SealedWire();
            for (int i = 0; i < 10; i++) {
                Kit.send(wire, CLIENT, Scene.start(Kit.bytes(94), 200));
            }
            Kit.same("ten come", wire.run(50), 10);
            Kit.same("1990 bytes", wire.about(SERVER, 3), 1990);
            Kit.send(wire, CLIENT, Scene.start(Kit.bytes(94, 1, 2), 11 + more));
            if (more == 0) {
                Kit.same("2000 bytes are fine", wire.come(SERVER), 94);
                Kit.same("2000 bytes", wire.about(SERVER, 3), 2000);
                Kit.same("the last", wire.got(SERVER, 1999), 0);
                Kit.same("the tenth before it", wire.got(SERVER, 1990), 1);
                Kit.send(wire, CLIENT, Kit.bytes(94));
                Kit.same("no bytes are fine, too", wire.come(SERVER), 94);
                Kit.send(wire, CLIENT, Kit.bytes(94, 1));
            }
            misplaced("more than 2000", wire, SERVER);
            Kit.same("none of them is got", wire.about(SERVER, 3), more == 0 ? 2000 : 1990);
        }
    }

    private static void run() {
        SealedWire wire = new SealedWire();
        for (int n : new int[] {-1, 51, Integer.MIN_VALUE, Integer.MAX_VALUE}) {
            Kit.thrown("run(" + n + ")", () -> wire.run(n), Kit.ARGUMENT);
        }
        Kit.same("of nothing", wire.run(50), 0);
        for (int i = 0; i < 3; i++) {
            Kit.send(wire, CLIENT, Scene.DATA);
        }
        Kit.send(wire, SERVER, Scene.DATA);
        Kit.same("none of them", wire.run(0), 0);
        Kit.same("the first", wire.run(1), 1);
        Kit.same("to the server", wire.about(SERVER, 2) * 10 + wire.about(CLIENT, 2), 10);
        Kit.same("the next", wire.run(1), 1);
        Kit.same("to the server again", wire.about(SERVER, 2) * 10 + wire.about(CLIENT, 2), 20);
        Kit.same("two more", wire.run(2), 2);
        Kit.same("one to each", wire.about(SERVER, 2) * 10 + wire.about(CLIENT, 2), 31);
        for (int i = 0; i < 5; i++) {
            Kit.send(wire, SERVER, Scene.DATA);
        }
        Kit.same("the server is passed", wire.run(4), 4);
        Kit.same("the last one", wire.run(50), 1);
        runInTurn();
        runToAnEndThatEnded();
        runOfUnknowns();
    }

    private static void runInTurn() {
        for (int n = 0; n <= 12; n++) {
            SealedWire wire = new SealedWire();
            for (int i = 0; i < 6; i++) {
                Kit.send(wire, CLIENT, Scene.DATA);
                Kit.send(wire, SERVER, Scene.DATA);
            }
            Kit.same("so many came", wire.run(n), n);
            Kit.same("to the server", wire.about(SERVER, 2), (n + 1) / 2);
            Kit.same("to the client", wire.about(CLIENT, 2), n / 2);
        }
    }

    private static void runToAnEndThatEnded() {
        SealedWire wire = new SealedWire();
        Kit.send(wire, CLIENT, Scene.DATA);
        Kit.send(wire, CLIENT, Scene.DATA);
        Kit.send(wire, SERVER, Scene.END);
        Kit.same("those that are gone count", wire.run(50), 3);
        Kit.same("not at the end", wire.about(SERVER, 2), 0);
        Kit.same("the client ended", wire.about(CLIENT, 0), 0);
    }

    private static void runOfUnknowns() {
        SealedWire wire = new SealedWire();
        for (int i = 0; i < 6; i++) {
            Kit.send(wire, CLIENT, Kit.bytes(77));
            Kit.send(wire, SERVER, Kit.bytes(78));
        }
        Kit.same("answers to answers there are none", wire.run(50), 24);
        Kit.same("the last to the client", wire.about(CLIENT, 8), 5);
        Kit.same("the last to the server", wire.about(SERVER, 8), 5);
    }

    private static void about() {
        SealedWire wire = Scene.ready();
        for (int what : new int[] {-1, 9, Integer.MIN_VALUE, Integer.MAX_VALUE}) {
            Kit.thrown("about " + what, () -> wire.about(CLIENT, what), Kit.INDEX);
            Kit.thrown("about no end", () -> wire.about(2, what), Kit.NO_SUCH);
        }
        Kit.thrown("about no end", () -> wire.about(-1, 0), Kit.NO_SUCH);
        wire.begin(SERVER);
        Kit.same("the server began", Kit.about(wire, SERVER), "1 1 0 0 0 0 1 0 -1");
        Kit.same("the client did not", Kit.about(wire, CLIENT), "1 0 0 0 0 1 0 0 -1");
        wire.come(CLIENT);
        Kit.same("INIT and REQUEST", Kit.about(wire, CLIENT), "1 2 1 0 0 0 1 1 -1");
        Kit.same("two packets", Kit.about(wire, SERVER), "1 1 0 0 0 2 1 0 -1");
        wire.run(50);
        Kit.same("over", Kit.about(wire, CLIENT), "1 3 3 0 1 0 0 0 -1");
    }
}
