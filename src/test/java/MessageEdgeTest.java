/** Each message in its place and out of it, of just so many bytes and of one more or less (promises 11 and 16). */
public final class MessageEdgeTest {
    private static final int CLIENT = Scene.CLIENT;
    private static final int SERVER = Scene.SERVER;
    private static final byte[] REQUEST = Kit.join(Kit.bytes(30), Oracle.publicRow(Scene.CLIENT_SECRET));

    public static void main(String[] args) {
        anyEnd();
        anyIgnore();
        unknownSizes();
        unknownNumbers();
        unknownIsSent();
        initSizes();
        initPlaces();
        requestSizes();
        requestPlaces();
        replySizes();
        replyPlaces();
        newSizes();
        newPlaces();
        dataSizes();
        dataPlaces();
        dataRoom();
        none();
        hadEnded();
        Kit.finish();
    }

    private static void good(String what, SealedWire wire, int end, int message) {
        Kit.same(what, wire.come(end), message);
        Kit.same(what + ": it lives", wire.about(end, 0), 1);
    }

    private static void refused(String what, SealedWire wire, int end) {
        int sent = wire.about(end, 1);
        int came = wire.about(end, 2);
        int got = wire.about(end, 3);
        int packets = wire.about(1 - end, 5);
        Kit.same(what, wire.come(end), -3);
        Kit.same(what + ": it ended", wire.about(end, 0), 0);
        Kit.same(what + ": END was sent", wire.about(end, 1), sent + 1);
        Kit.same(what + ": END is on the wire", wire.about(1 - end, 5), packets + 1);
        Kit.same(what + ": it came", wire.about(end, 2), came + 1);
        Kit.same(what + ": nothing was got", wire.about(end, 3), got);
    }

    /** To the server INIT has come, and it has sent its own. */
    private static SealedWire askedServer() {
        SealedWire wire = Scene.ready();
        wire.begin(CLIENT);
        wire.come(SERVER);
        return wire;
    }

    /** The client has sent REQUEST, which is still on the wire. */
    private static SealedWire askingClient() {
        SealedWire wire = askedServer();
        wire.come(CLIENT);
        return wire;
    }

    private static void anyEnd() {
        Kit.sentence("END: it ends (sends nothing; it may have any bytes)");
        for (int size : new int[] {1, 2, 5, 9, 33, 97, 200}) {
            SealedWire wire = new SealedWire();
            Kit.send(wire, CLIENT, Kit.rising(1, size));
            Kit.same("END of " + size, wire.come(SERVER), 1);
            Kit.same("it ended, and sent nothing", Kit.about(wire, SERVER), "0 0 1 0 0 0 0 0 -1");
        }
    }

    private static void anyIgnore() {
        Kit.sentence("IGNORE, UNKNOWN: nothing (they may have any bytes)");
        for (int size : new int[] {1, 2, 5, 9, 33, 97, 200}) {
            SealedWire wire = new SealedWire();
            Kit.send(wire, CLIENT, Kit.rising(2, size));
            Kit.same("IGNORE of " + size, wire.come(SERVER), 2);
            Kit.same("nothing", Kit.about(wire, SERVER), "1 0 1 0 0 0 0 0 -1");
            Kit.send(wire, CLIENT, Scene.start(Kit.bytes(3), size));
            Kit.same("UNKNOWN of " + size, wire.come(SERVER), 3);
            Kit.same("nothing", Kit.about(wire, SERVER), "1 0 2 0 0 0 0 0 " + (size == 5 ? 0 : -1));
        }
        for (int message = 2; message <= 3; message++) {
            SealedWire wire = askedServer();
            Kit.send(wire, SERVER, Kit.bytes(message));
            Kit.send(wire, CLIENT, Kit.bytes(message));
            good("amid an exchange", wire, SERVER, message);
            Kit.same("the exchange goes on", wire.run(50), 6);
            Kit.same("and is over", wire.about(CLIENT, 4) + wire.about(SERVER, 4), 2);
        }
    }

    private static void unknownSizes() {
        Kit.sentence("(-1: none, or it had not 5 bytes)");
        SealedWire wire = new SealedWire();
        Kit.same("none", wire.about(SERVER, 8), -1);
        for (int size : new int[] {4, 6, 1, 200}) {
            Kit.send(wire, CLIENT, Kit.bytes(3, 0, 0, 1, 2));
            wire.come(SERVER);
            Kit.same("it had 5", wire.about(SERVER, 8), 258);
            Kit.send(wire, CLIENT, Kit.join(Kit.bytes(3), Kit.rising(1, size - 1)));
            wire.come(SERVER);
            Kit.same("it had " + size, wire.about(SERVER, 8), -1);
        }
    }

    private static void unknownNumbers() {
        Kit.sentence("the sequence number of the last UNKNOWN that came to it, as an int");
        SealedWire wire = new SealedWire();
        for (int number : new int[] {0, 1, 255, 256, 65536, 1 << 24, Integer.MAX_VALUE, Integer.MIN_VALUE, -2, -1, 7}) {
            Kit.send(wire, CLIENT, Kit.bytes(3, number >> 24, number >> 16, number >> 8, number));
            Kit.same("it comes", wire.come(SERVER), 3);
            Kit.same("the number", wire.about(SERVER, 8), number);
            Kit.same("the other end has none", wire.about(CLIENT, 8), -1);
        }
    }

    private static void unknownIsSent() {
        Kit.sentence("Any other first byte: it sends UNKNOWN");
        for (int first : new int[] {0, 4, 19, 22, 29, 32, 93, 95, 127, 128, 255}) {
            for (int size : new int[] {1, 200}) {
                SealedWire wire = new SealedWire();
                Kit.send(wire, SERVER, Scene.start(Kit.bytes(first), size));
                good("first byte " + first, wire, CLIENT, first);
                Kit.same("UNKNOWN", Kit.packet(wire, SERVER, 0), Oracle.plain(Kit.bytes(3, 0, 0, 0, 0)));
            }
            SealedWire amid = Scene.ready();
            amid.begin(CLIENT);
            Kit.send(amid, SERVER, Kit.bytes(first));
            good("amid an exchange " + first, amid, CLIENT, first);
            Kit.same("UNKNOWN", Kit.packet(amid, SERVER, 1), Oracle.plain(Kit.bytes(3, 0, 0, 0, 0)));
        }
    }

    private static void initSizes() {
        Kit.sentence("20 INIT and the end's COOKIE, 8 bytes");
        for (int end = 0; end < 2; end++) {
            for (int size : new int[] {1, 8, 9, 10, 33, 200}) {
                SealedWire wire = Scene.ready();
                Scene.smuggle(wire, 1 - end, Scene.start(Scene.CLIENT_INIT, size));
                if (size == 9) {
                    good("INIT of 9", wire, end, 20);
                } else {
                    refused("INIT of " + size, wire, end);
                    Kit.same("INIT was not got", wire.about(end, 7), 0);
                }
            }
        }
    }

    private static void initPlaces() {
        Kit.sentence("INIT: in its place, if the end got none since the last exchange was over");
        for (int end = 0; end < 2; end++) {
            SealedWire wire = Scene.ready();
            Scene.smuggle(wire, 1 - end, Scene.CLIENT_INIT);
            Scene.smuggle(wire, 1 - end, Scene.CLIENT_INIT);
            good("the first", wire, end, 20);
            refused("the second", wire, end);
        }
        // The client's exchange is not over before the server's NEW has come to it.
        SealedWire late = Scene.ready();
        late.begin(CLIENT);
        late.run(3);
        late.come(CLIENT);
        Scene.forge(late, CLIENT, 0, Kit.bytes(2));
        Kit.same("NEW became IGNORE", late.come(CLIENT), 2);
        Kit.same("INIT is still marked", late.about(CLIENT, 7), 1);

        SealedWire over = Scene.agreed();
        over.begin(CLIENT);
        good("after an exchange", over, SERVER, 20);
        good("at the client, too", over, CLIENT, 20);
        Kit.sentence("it sends INIT first, if it has not");
        SealedWire both = Scene.ready();
        both.begin(CLIENT);
        both.begin(SERVER);
        both.come(SERVER);
        Kit.same("it had sent INIT", both.about(SERVER, 1), 1);
        both.come(CLIENT);
        Kit.same("INIT and REQUEST", both.about(CLIENT, 1), 2);
        SealedWire one = Scene.ready();
        one.begin(SERVER);
        one.come(CLIENT);
        Kit.same("INIT goes first", one.packet(SERVER, 0, 5), 20);
        Kit.same("then REQUEST", one.packet(SERVER, 1, 5), 30);
    }

    private static void requestSizes() {
        Kit.sentence("30 REQUEST, 32 bytes");
        for (int size : new int[] {1, 9, 32, 33, 34, 97, 200}) {
            SealedWire wire = askedServer();
            Scene.smuggle(wire, CLIENT, Scene.start(REQUEST, size));
            if (size == 33) {
                good("REQUEST of 33", wire, SERVER, 30);
            } else {
                refused("REQUEST of " + size, wire, SERVER);
                Kit.thrown("no session", () -> wire.session(SERVER, 0), Kit.STATE);
            }
        }
    }

    private static void requestPlaces() {
        Kit.sentence("REQUEST: at the server that has sent and got INIT, and got no REQUEST since");
        SealedWire fresh = Scene.ready();
        Scene.smuggle(fresh, CLIENT, REQUEST);
        refused("neither sent nor got", fresh, SERVER);
        SealedWire sent = Scene.ready();
        sent.begin(SERVER);
        Scene.smuggle(sent, CLIENT, REQUEST);
        refused("sent, not got", sent, SERVER);
        SealedWire twice = askedServer();
        Scene.smuggle(twice, CLIENT, REQUEST);
        Scene.smuggle(twice, CLIENT, REQUEST);
        good("sent and got", twice, SERVER, 30);
        refused("a second", twice, SERVER);
        SealedWire client = askingClient();
        Scene.smuggle(client, SERVER, REQUEST);
        refused("at the client", client, CLIENT);
        SealedWire over = Scene.agreed();
        hide(over, CLIENT, REQUEST, 3);
        refused("when the exchange is over", over, SERVER);
        SealedWire again = Scene.agreed();
        again.begin(SERVER);
        again.run(50);
        Kit.same("in the next exchange there is one again", again.about(SERVER, 4), 2);
    }

    private static void replySizes() {
        Kit.sentence("31 REPLY: the host's row, the server's public row, the PROOF (32 each)");
        for (int size : new int[] {1, 33, 65, 96, 97, 98, 200}) {
            SealedWire wire = askingClient();
            Scene.smuggle(wire, SERVER, Scene.start(Scene.reply(), size));
            if (size == 97) {
                good("REPLY of 97", wire, CLIENT, 31);
            } else {
                refused("REPLY of " + size, wire, CLIENT);
                Kit.thrown("no session", () -> wire.session(CLIENT, 0), Kit.STATE);
            }
        }
    }

    private static void replyPlaces() {
        Kit.sentence("REPLY: at the client that has sent REQUEST, and got no REPLY since");
        SealedWire fresh = Scene.ready();
        Scene.smuggle(fresh, SERVER, Scene.reply());
        refused("nothing sent", fresh, CLIENT);
        SealedWire begun = Scene.ready();
        begun.begin(CLIENT);
        Scene.smuggle(begun, SERVER, Scene.reply());
        refused("INIT sent, no REQUEST", begun, CLIENT);
        SealedWire twice = askingClient();
        Scene.smuggle(twice, SERVER, Scene.reply());
        Scene.smuggle(twice, SERVER, Scene.reply());
        good("REQUEST sent", twice, CLIENT, 31);
        refused("a second", twice, CLIENT);
        SealedWire server = askedServer();
        Scene.smuggle(server, CLIENT, Scene.reply());
        refused("at the server", server, SERVER);
        SealedWire over = Scene.agreed();
        hide(over, SERVER, Scene.reply(), 3);
        refused("when the exchange is over", over, CLIENT);
        SealedWire again = Scene.agreed();
        again.begin(CLIENT);
        again.run(50);
        Kit.same("in the next exchange there is one again", again.about(CLIENT, 4), 2);
    }

    private static void newSizes() {
        Kit.sentence("If one of these is not in its place, or has not just so many bytes");
        for (int size = 1; size <= 7; size++) {
            SealedWire wire = Scene.ready();
            wire.begin(CLIENT);
            wire.run(4);
            // NEW is 16 bytes on the wire: with less padding it is a longer one.
            Scene.replace(wire, SERVER, 0, Oracle.plain(Scene.start(Scene.NEW, size)));
            if (size == 1) {
                good("NEW of 1", wire, SERVER, 21);
                Kit.same("the exchange is over", wire.about(SERVER, 4), 1);
            } else {
                refused("NEW of " + size, wire, SERVER);
                Kit.same("the exchange is not over", wire.about(SERVER, 4), 0);
            }
        }
    }

    private static void newPlaces() {
        Kit.sentence("NEW: at an end that has sent NEW since the last exchange was over");
        for (int end = 0; end < 2; end++) {
            SealedWire fresh = Scene.ready();
            Scene.smuggle(fresh, 1 - end, Scene.NEW);
            refused("nothing sent", fresh, end);
        }
        SealedWire server = askedServer();
        Scene.smuggle(server, CLIENT, Scene.NEW);
        refused("the server has sent INIT alone", server, SERVER);
        SealedWire client = askingClient();
        Scene.smuggle(client, SERVER, Scene.NEW);
        refused("the client has sent REQUEST, not NEW", client, CLIENT);
        SealedWire after = askingClient();
        Scene.smuggle(after, SERVER, Scene.reply());
        Scene.smuggle(after, SERVER, Scene.NEW);
        good("REPLY", after, CLIENT, 31);
        good("the client has sent NEW", after, CLIENT, 21);
        for (int end = 0; end < 2; end++) {
            SealedWire over = Scene.agreed();
            hide(over, 1 - end, Scene.NEW, 3);
            refused("the NEW of the exchange before does not count", over, end);
        }
    }

    private static void dataSizes() {
        Kit.sentence("DATA any");
        for (int size : new int[] {1, 2, 5, 9, 33, 97, 199, 200}) {
            SealedWire wire = new SealedWire();
            Kit.send(wire, CLIENT, Scene.start(Kit.bytes(94), size));
            good("DATA of " + size, wire, SERVER, 94);
            Kit.same("got " + (size - 1), wire.about(SERVER, 3), size - 1);
        }
    }

    private static void dataPlaces() {
        Kit.sentence("DATA: at an end that got no INIT since the last exchange was over");
        SealedWire begun = Scene.ready();
        Kit.send(begun, SERVER, Scene.DATA);
        begun.begin(CLIENT);
        good("it has sent INIT, and got none", begun, CLIENT, 94);
        SealedWire got = Scene.ready();
        got.begin(CLIENT);
        Scene.smuggle(got, CLIENT, Scene.DATA);
        good("INIT", got, SERVER, 20);
        refused("it got INIT", got, SERVER);
        SealedWire renewed = Scene.ready();
        renewed.begin(CLIENT);
        renewed.run(4);
        Kit.same("the client's NEW", renewed.packet(SERVER, 0, 5), 21);
        Scene.forge(renewed, SERVER, 0, Kit.bytes(94));
        refused("it has sent NEW, and got none", renewed, SERVER);
        for (int end = 0; end < 2; end++) {
            SealedWire over = Scene.agreed();
            Kit.send(over, 1 - end, Scene.DATA);
            good("the exchange is over", over, end, 94);
            Kit.same("it is got", Kit.got(over, end), Kit.bytes(5, 6, 7));
        }
    }

    private static void dataRoom() {
        Kit.sentence("and if it would have at most 2000 bytes then: these come behind what it GOT");
        for (int last : new int[] {9, 10, 11, 199}) {
            SealedWire wire = new SealedWire();
            for (int i = 0; i < 10; i++) {
                Kit.send(wire, CLIENT, Scene.start(Kit.bytes(94, i), 200));
            }
            Kit.same("1990 bytes", wire.run(10) * 199, 1990);
            Kit.send(wire, CLIENT, Kit.join(Kit.bytes(94), Kit.rising(1, last)));
            if (last > 10) {
                refused("2000 and " + (last - 10), wire, SERVER);
                Kit.thrown("none of them is there", () -> wire.got(SERVER, 1990), Kit.INDEX);
            } else {
                good("1990 and " + last, wire, SERVER, 94);
                Kit.same("the last one", wire.got(SERVER, 1989 + last), last);
                Kit.thrown("behind it", () -> wire.got(SERVER, 1990 + last), Kit.INDEX);
                Kit.same("the first one", wire.got(SERVER, 0), 0);
                Kit.same("the first one of the tenth", wire.got(SERVER, 1791), 9);
            }
            if (last == 10) {
                Kit.send(wire, CLIENT, Kit.bytes(94));
                good("none more", wire, SERVER, 94);
                Kit.send(wire, CLIENT, Kit.bytes(94, 1));
                refused("one more", wire, SERVER);
            }
        }
    }

    private static void none() {
        Kit.sentence("-1 when there is none (also of an end that ended)");
        SealedWire wire = new SealedWire();
        Kit.same("none", wire.come(SERVER), -1);
        Kit.send(wire, CLIENT, Scene.IGNORE);
        Kit.same("one", wire.come(SERVER), 2);
        Kit.same("none again", wire.come(SERVER), -1);
        Kit.same("it is not counted", Kit.about(wire, SERVER), "1 0 1 0 0 0 0 0 -1");
        Kit.send(wire, SERVER, Scene.END);
        Kit.same("none to an end that ended", wire.come(SERVER), -1);
    }

    private static void hadEnded() {
        Kit.sentence("An end that ended sends nothing more, and what comes to it is gone (and not counted)");
        SealedWire wire = Scene.ready();
        Kit.send(wire, SERVER, Scene.END);
        wire.begin(CLIENT);
        Kit.send(wire, CLIENT, Kit.bytes(3, 0, 0, 0, 9));
        Scene.smuggle(wire, CLIENT, Kit.bytes(77));
        Scene.smuggle(wire, CLIENT, Kit.bytes(31));
        for (int i = 4; i > 0; i--) {
            Kit.same("it is gone", wire.come(SERVER), -4);
            Kit.same("nothing was sent or counted", Kit.about(wire, SERVER), "0 1 0 0 0 " + (i - 1) + " 0 0 -1");
        }
        Kit.same("then there is none", wire.come(SERVER), -1);
        Kit.same("END alone", wire.about(CLIENT, 5), 1);
    }

    /** Sends, behind one exchange, what send refuses: an IGNORE of the same size is sent, and replaced. */
    private static void hide(SealedWire wire, int from, byte[] payload, int sequence) {
        byte[] harmless = payload.clone();
        harmless[0] = 2;
        Kit.send(wire, from, harmless);
        Scene.replace(wire, 1 - from, 0, Oracle.hidden(payload, Scene.firstKeys(from), sequence));
    }
}
