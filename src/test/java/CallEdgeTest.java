/** Arguments of the calls of promises 10, 11, 15 and 16, states in which send is refused, and the 512th call. */
public final class CallEdgeTest {
    private static final int CLIENT = Scene.CLIENT;
    private static final int SERVER = Scene.SERVER;
    private static final int[] ENDS = {Integer.MIN_VALUE, -2, -1, 0, 1, 2, 3, Integer.MAX_VALUE};

    public static void main(String[] args) {
        noSuchEnd();
        firstNamedOfSend();
        reservedBytes();
        afterTheEnd();
        amidAnExchange();
        newIsSent();
        sendEnds();
        gotBounds();
        aboutBounds();
        aboutLives();
        aboutCounts();
        whatAnEndHad();
        lastOf512Calls();
        Kit.finish();
    }

    private static boolean isEnd(int end) {
        return end == CLIENT || end == SERVER;
    }

    private static void noSuchEnd() {
        Kit.sentence("NoSuchElementException: there is no such end");
        for (int end : ENDS) {
            SealedWire wire = Scene.agreed();
            Kit.send(wire, CLIENT, Scene.DATA);
            Kit.send(wire, SERVER, Scene.DATA);
            String due = isEnd(end) ? Kit.NONE : Kit.NO_SUCH;
            Kit.thrown("packet " + end, () -> wire.packet(end, 0, 0), due);
            Kit.thrown("damage " + end, () -> wire.damage(end, 0, 0, 0), due);
            Kit.thrown("come " + end, () -> wire.come(end), due);
            Kit.thrown("got " + end, () -> wire.got(end, 0), due);
            Kit.thrown("about " + end, () -> wire.about(end, 0), due);
            Kit.thrown("session " + end, () -> wire.session(end, 0), due);
            Kit.type(wire, Scene.DATA);
            Kit.thrown("send " + end, () -> wire.send(end), due);
            Kit.thrown("begin " + end, () -> wire.begin(end), due);
        }
    }

    private static void firstNamedOfSend() {
        Kit.sentence("where several exceptions that a call names fit, it is the one that it names first");
        SealedWire wire = new SealedWire();
        Kit.thrown("no end, no bytes", () -> wire.send(2), Kit.NO_SUCH);
        Kit.type(wire, Scene.start(Kit.bytes(20), 201));
        Kit.thrown("no end, 201 bytes, 20", () -> wire.send(-1), Kit.NO_SUCH);
        Kit.type(wire, Scene.start(Kit.bytes(20), 201));
        Kit.thrown("201 bytes, 20", () -> wire.send(CLIENT), Kit.ARGUMENT);
        Kit.send(wire, CLIENT, Scene.END);
        Kit.thrown("no bytes, it ended", () -> wire.send(CLIENT), Kit.ARGUMENT);
        Kit.type(wire, Scene.start(Kit.bytes(2), 201));
        Kit.thrown("201 bytes, it ended", () -> wire.send(CLIENT), Kit.ARGUMENT);
        wire.type(20, 1);
        Kit.thrown("it ended, 20", () -> wire.send(CLIENT), Kit.STATE);
        wire.type(2, 1);
        Kit.thrown("it ended", () -> wire.send(CLIENT), Kit.STATE);
    }

    private static void reservedBytes() {
        Kit.sentence("or the first byte is 20, 21, 30 or 31");
        for (int first : new int[] {0, 1, 19, 20, 21, 22, 29, 30, 31, 32, 94, 255}) {
            boolean reserved = first == 20 || first == 21 || first == 30 || first == 31;
            for (int end = 0; end < 2; end++) {
                int who = end;
                for (SealedWire wire : new SealedWire[] {Scene.ready(), Scene.agreed()}) {
                    wire.type(first, 2);
                    Kit.thrown("first byte " + first, () -> wire.send(who), reserved ? Kit.STATE : Kit.NONE);
                    Kit.same("packets", wire.about(1 - end, 5), reserved ? 0 : 1);
                    wire.type(2 + 256 * first, 2);
                    if (first != 1) {
                        Kit.thrown("second byte " + first, () -> wire.send(who), Kit.NONE);
                    }
                }
            }
        }
    }

    private static void afterTheEnd() {
        Kit.sentence("IllegalStateException when the end ended");
        for (int first : new int[] {1, 2, 3, 94, 77}) {
            SealedWire wire = new SealedWire();
            wire.type(first, 1);
            Kit.thrown("it lives", () -> wire.send(CLIENT), Kit.NONE);
            Kit.send(wire, SERVER, Scene.END);
            wire.come(CLIENT);
            int sent = wire.about(CLIENT, 1);
            wire.type(first, 1);
            Kit.thrown("it ended", () -> wire.send(CLIENT), Kit.STATE);
            Kit.same("nothing was sent", wire.about(CLIENT, 1), sent);
        }
    }

    private static void amidAnExchange() {
        Kit.sentence("or the end has sent INIT and not NEW since its last exchange was over, "
                + "and the first byte is not 1, 2 or 3");
        for (int first : new int[] {0, 1, 2, 3, 4, 77, 93, 94, 95, 255}) {
            String due = first >= 1 && first <= 3 ? Kit.NONE : Kit.STATE;
            SealedWire begun = Scene.ready();
            begun.begin(CLIENT);
            begun.type(first, 1);
            Kit.thrown("INIT was sent, " + first, () -> begun.send(CLIENT), due);
            SealedWire answered = Scene.ready();
            answered.begin(CLIENT);
            answered.come(SERVER);
            answered.type(first, 1);
            Kit.thrown("INIT was sent as an answer, " + first, () -> answered.send(SERVER), due);
            answered.come(CLIENT);
            answered.type(first, 1);
            Kit.thrown("REQUEST was sent, " + first, () -> answered.send(CLIENT), due);
            SealedWire other = Scene.ready();
            other.begin(CLIENT);
            other.type(first, 1);
            Kit.thrown("the other end may, " + first, () -> other.send(SERVER), Kit.NONE);
            SealedWire again = Scene.agreed();
            again.begin(SERVER);
            again.type(first, 1);
            Kit.thrown("in a second exchange, " + first, () -> again.send(SERVER), due);
        }
    }

    private static void newIsSent() {
        Kit.sentence("or the end has sent INIT and not NEW since its last exchange was over");
        for (int first : new int[] {0, 2, 94, 255}) {
            SealedWire wire = Scene.ready();
            wire.begin(CLIENT);
            wire.run(3);
            wire.type(first, 1);
            Kit.thrown("the server has sent NEW, " + first, () -> wire.send(SERVER), Kit.NONE);
            wire.come(CLIENT);
            wire.type(first, 1);
            Kit.thrown("the client has, " + first, () -> wire.send(CLIENT), Kit.NONE);
            wire.run(50);
            wire.type(first, 1);
            Kit.thrown("it is over, " + first, () -> wire.send(CLIENT), Kit.NONE);
        }
    }

    private static void sendEnds() {
        Kit.sentence("(With the first byte 1 it ends.)");
        for (int first = 0; first <= 3; first++) {
            SealedWire wire = new SealedWire();
            wire.type(first, 1);
            wire.send(SERVER);
            Kit.same("after " + first, Kit.about(wire, SERVER), (first == 1 ? 0 : 1) + " 1 0 0 0 0 0 0 -1");
            Kit.same("it goes", wire.packet(CLIENT, 0, 5), first);
        }
    }

    private static void gotBounds() {
        Kit.sentence("Byte i of what an end GOT");
        for (int count = 0; count <= 3; count++) {
            SealedWire wire = new SealedWire();
            Kit.send(wire, CLIENT, Scene.start(Scene.DATA, 1 + count));
            wire.come(SERVER);
            for (int end : ENDS) {
                for (int i : new int[] {Integer.MIN_VALUE, -1, 0, count - 1, count, 1999, 2000, Integer.MAX_VALUE}) {
                    boolean there = end == SERVER && i >= 0 && i < count;
                    String due = !isEnd(end) ? Kit.NO_SUCH : there ? Kit.NONE : Kit.INDEX;
                    Kit.thrown("got " + end + ", " + i + " of " + count, () -> wire.got(end, i), due);
                    if (there) {
                        Kit.same("got " + i, wire.got(end, i), 5 + i);
                    }
                }
            }
        }
    }

    private static void aboutBounds() {
        Kit.sentence("IndexOutOfBoundsException for another what");
        SealedWire wire = new SealedWire();
        for (int end : ENDS) {
            for (int what : new int[] {Integer.MIN_VALUE, -1, 0, 1, 2, 3, 4, 5, 6, 7, 8, 9, Integer.MAX_VALUE}) {
                String due = !isEnd(end) ? Kit.NO_SUCH : what >= 0 && what <= 8 ? Kit.NONE : Kit.INDEX;
                Kit.thrown("about " + end + ", " + what, () -> wire.about(end, what), due);
            }
        }
    }

    private static void aboutLives() {
        Kit.sentence("0 whether it lives (1, or 0)");
        SealedWire wire = Scene.ready();
        Kit.same("both live", wire.about(CLIENT, 0) * 10 + wire.about(SERVER, 0), 11);
        Kit.send(wire, CLIENT, Scene.END);
        Kit.same("the client ended", wire.about(CLIENT, 0) * 10 + wire.about(SERVER, 0), 1);
        wire.come(SERVER);
        Kit.same("both ended", wire.about(CLIENT, 0) * 10 + wire.about(SERVER, 0), 0);
    }

    /** What an end is told of changes at one end alone, and goes on through exchanges. */
    private static void aboutCounts() {
        Kit.sentence("Each end counts the packets that it sent, and those that came (from 0 on, for ever");
        SealedWire wire = Scene.ready();
        for (int i = 0; i < 3; i++) {
            wire.begin(i % 2);
            wire.run(50);
            Kit.send(wire, CLIENT, Kit.bytes(94, i));
            Kit.same("one is on the wire", wire.about(SERVER, 5), 1);
            wire.come(SERVER);
            Kit.same("the client", Kit.about(wire, CLIENT),
                    "1 " + (4 * i + 4) + " " + (3 * i + 3) + " 0 " + (i + 1) + " 0 0 0 -1");
            Kit.same("the server", Kit.about(wire, SERVER),
                    "1 " + (3 * i + 3) + " " + (4 * i + 4) + " " + (i + 1) + " " + (i + 1) + " 0 0 0 -1");
        }
    }

    private static void whatAnEndHad() {
        Kit.sentence("An end that ended sends nothing more");
        SealedWire wire = Scene.agreed();
        Kit.send(wire, SERVER, Scene.DATA);
        Kit.send(wire, SERVER, Kit.bytes(3, 0, 0, 0, 2));
        Kit.send(wire, SERVER, Scene.END);
        wire.run(50);
        Kit.same("both ended", wire.about(CLIENT, 0) + wire.about(SERVER, 0), 0);
        Kit.same("what it counted", Kit.about(wire, CLIENT), "0 3 6 3 1 0 0 0 2");
        Kit.same("what it got", Kit.got(wire, CLIENT), Kit.bytes(5, 6, 7));
        Kit.same("its session", Kit.session(wire, CLIENT), Scene.firstH());
        Kit.same("the other's session", Kit.session(wire, SERVER), Scene.firstH());
    }

    private static void lastOf512Calls() {
        Kit.sentence("An object is used for at most 512 calls after it has been made");
        SealedWire wire = Scene.ready();
        // To make it ready took 24 calls: 18 of type, and 6 of set.
        for (int calls = 24; calls < 508; calls += 2) {
            wire.begin(calls / 2 % 2);
            Kit.same("six packets", wire.run(50), 6);
        }
        wire.type(94, 1);
        wire.send(CLIENT);
        Kit.same("the 511th call", wire.come(SERVER), 94);
        Kit.same("the 512th call", wire.about(SERVER, 2), 3 * 242 + 1);
    }
}
