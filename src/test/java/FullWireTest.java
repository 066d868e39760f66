/** Twelve packets to an end are as many as there can be (promises 9, 10, 11, 16, 17). */
public final class FullWireTest {
    private static final int CLIENT = Scene.CLIENT;
    private static final int SERVER = Scene.SERVER;

    public static void main(String[] args) {
        send();
        begin();
        end();
        unknown();
        initAnswered();
        requestAnswered();
        replyAnswered();
        goesRound();
        Kit.finish();
    }

    private static void fill(SealedWire wire, int from, int count) {
        for (int i = 0; i < count; i++) {
            Kit.send(wire, from, Scene.IGNORE);
        }
    }

    private static void send() {
        SealedWire wire = new SealedWire();
        fill(wire, CLIENT, 12);
        Kit.same("twelve are fine", Kit.about(wire, CLIENT), "1 12 0 0 0 0 0 0 -1");
        Kit.type(wire, Scene.DATA);
        Kit.thrown("a thirteenth", () -> wire.send(CLIENT), Kit.NONE);
        Kit.same("it is lost, and the end ended", Kit.about(wire, CLIENT), "0 12 0 0 0 0 0 0 -1");
        Kit.same("twelve", wire.about(SERVER, 5), 12);
        Kit.type(wire, Scene.DATA);
        Kit.thrown("no more", () -> wire.send(CLIENT), Kit.STATE);
        Kit.same("END is not sent", wire.run(50), 12);
        Kit.same("the server lives", wire.about(SERVER, 0), 1);
    }

    private static void begin() {
        SealedWire wire = Scene.ready();
        fill(wire, SERVER, 12);
        Kit.thrown("begin", () -> wire.begin(SERVER), Kit.NONE);
        Kit.same("the server ended", wire.about(SERVER, 0), 0);
        Kit.same("INIT is not counted", wire.about(SERVER, 1), 12);
        Kit.same("twelve", wire.about(CLIENT, 5), 12);
    }

    private static void end() {
        SealedWire wire = Scene.ready();
        fill(wire, SERVER, 12);
        Kit.send(wire, CLIENT, Scene.IGNORE);
        wire.damage(SERVER, 0, 0, 1);
        Kit.same("broken", wire.come(SERVER), -2);
        Kit.same("END is lost", Kit.about(wire, SERVER), "0 12 1 0 0 0 0 0 -1");
        Kit.same("twelve", wire.about(CLIENT, 5), 12);
        Kit.same("no END among them", wire.packet(CLIENT, 11, 5), 2);

        SealedWire other = Scene.ready();
        fill(other, SERVER, 12);
        Kit.type(other, Scene.END);
        Kit.thrown("END by send", () -> other.send(SERVER), Kit.NONE);
        Kit.same("END is lost", Kit.about(other, SERVER), "0 12 0 0 0 0 0 0 -1");
    }

    private static void unknown() {
        SealedWire wire = Scene.ready();
        fill(wire, SERVER, 12);
        Kit.send(wire, CLIENT, Kit.bytes(99));
        Kit.same("not known", wire.come(SERVER), 99);
        Kit.same("UNKNOWN is lost", Kit.about(wire, SERVER), "0 12 1 0 0 0 0 0 -1");
    }

    private static void initAnswered() {
        for (int room = 0; room < 3; room++) {
            SealedWire wire = Scene.ready();
            wire.begin(SERVER);
            fill(wire, CLIENT, 12 - room);
            Kit.same("INIT", wire.come(CLIENT), 20);
            Kit.same("the client lives if there is room for two", wire.about(CLIENT, 0), room == 2 ? 1 : 0);
            Kit.same("what could be sent", wire.about(CLIENT, 1), 12);
            Kit.same("it got INIT", wire.about(CLIENT, 7), 1);
            Kit.same("packets", wire.about(SERVER, 5), 12);
        }
    }

    /** Up to REQUEST, and the wire to the client full but for some room. */
    private static void requestAnswered() {
        for (int room = 0; room < 3; room++) {
            SealedWire wire = Scene.ready();
            wire.begin(CLIENT);
            wire.run(2);
            fill(wire, SERVER, 12 - room);
            Kit.same("REQUEST", wire.come(SERVER), 30);
            Kit.same("the server lives if there is room for two", wire.about(SERVER, 0), room == 2 ? 1 : 0);
            Kit.same("what could be sent", wire.about(SERVER, 1), 13);
            Kit.same("the session is made all the same", Kit.session(wire, SERVER), Scene.firstH());
            if (room == 1) {
                Kit.same("REPLY is the last", wire.packet(CLIENT, 11, 5), 31);
            }
        }
    }

    private static void replyAnswered() {
        for (int room = 0; room < 2; room++) {
            SealedWire wire = Scene.ready();
            wire.begin(CLIENT);
            wire.run(3);
            fill(wire, CLIENT, 12 - room);
            Kit.same("REPLY", wire.come(CLIENT), 31);
            Kit.same("the client lives if there is room", wire.about(CLIENT, 0), room);
            Kit.same("what could be sent", wire.about(CLIENT, 1), 14);
            Kit.same("the session is made all the same", Kit.session(wire, CLIENT), Scene.firstH());
        }
        SealedWire wire = Scene.ready();
        Kit.set(wire, 3, new byte[32]);
        wire.begin(CLIENT);
        wire.run(3);
        fill(wire, CLIENT, 12);
        Kit.same("REPLY of an untrusted host", wire.come(CLIENT), 31);
        Kit.same("END is lost", wire.about(CLIENT, 1), 14);
        Kit.same("the client ended", wire.about(CLIENT, 0), 0);
    }

    /** Places on the wire are used again and again, and the order stays. */
    private static void goesRound() {
        SealedWire wire = new SealedWire();
        for (int i = 0; i < 40; i++) {
            Kit.send(wire, CLIENT, Kit.bytes(94, i));
            if (i >= 7) {
                Kit.same("the first of some", wire.packet(SERVER, 0, 6), i - 7);
                Kit.same("the last of some", wire.packet(SERVER, 7, 6), i);
                wire.come(SERVER);
            }
        }
        wire.run(50);
        Kit.same("in their order", Kit.got(wire, SERVER), Kit.rising(0, 40));
    }
}
