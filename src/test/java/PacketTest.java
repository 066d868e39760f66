import java.util.Arrays;

/** Promises 10 (send), 13 (packet), 14 (damage) and 15 (got), and which packets are broken. */
public final class PacketTest {
    private static final int CLIENT = Scene.CLIENT;
    private static final int SERVER = Scene.SERVER;

    public static void main(String[] args) {
        plainPackets();
        hiddenPackets();
        brokenPlain();
        shiftedPadding();
        brokenHidden();
        sendThrows();
        sendAmidAnExchange();
        sendEnd();
        packetThrows();
        damageThrows();
        gotThrows();
        Kit.finish();
    }

    private static byte[] data(int size) {
        byte[] payload = Kit.rising(size, size);
        payload[0] = 94;
        return payload;
    }

    private static void plainPackets() {
        for (int size = 1; size <= 200; size++) {
            SealedWire wire = new SealedWire();
            Kit.send(wire, CLIENT, data(size));
            Kit.same("plain " + size, Kit.packet(wire, SERVER, 0), Oracle.plain(data(size)));
            Kit.same("it comes", wire.come(SERVER), 94);
            Kit.same("got " + size, wire.about(SERVER, 3), size - 1);
        }
    }

    private static void hiddenPackets() {
        for (int size = 1; size <= 200; size++) {
            int end = size % 2;
            SealedWire wire = Scene.agreed();
            Kit.send(wire, end, data(size));
            Kit.same("hidden " + size, Kit.packet(wire, 1 - end, 0),
                    Oracle.hidden(data(size), Scene.firstKeys(end), 3));
            Kit.same("it comes", wire.come(1 - end), 94);
            Kit.same("got", wire.about(1 - end, 3), size - 1);
        }
        SealedWire wire = Scene.agreed();
        for (int i = 0; i < 5; i++) {
            Kit.send(wire, CLIENT, Scene.DATA);
            Kit.same("the nonce is the sequence number", Kit.packet(wire, SERVER, i),
                    Oracle.hidden(Scene.DATA, Scene.firstKeys(CLIENT), 3 + i));
        }
    }

    private static void checkBroken(String what, SealedWire wire, int end) {
        int came = wire.about(end, 2);
        Kit.same(what + " is broken", wire.come(end), -2);
        Kit.same(what + " counts", wire.about(end, 2), came + 1);
        Kit.same(what + " ends", wire.about(end, 0), 0);
        Kit.same(what + " is told", wire.about(1 - end, 5), 1);
        Kit.same(what + ": END", wire.come(1 - end), 1);
    }

    /** Every bit of the size, of the padding's size (4, so that no other one fits) and of the padding. */
    private static void brokenPlain() {
        byte[] payload = {2, 9, 9, 9, 9, 9, 9};
        int size = Oracle.plain(payload).length;
        for (int i = 0; i < size; i++) {
            boolean inside = i >= 5 && i < 12;
            for (int bit = 0; bit < 8 && !inside; bit++) {
                SealedWire wire = new SealedWire();
                Kit.send(wire, SERVER, payload);
                wire.damage(CLIENT, 0, i, 1 << bit);
                checkBroken("plain byte " + i + " bit " + bit, wire, CLIENT);
            }
        }
        SealedWire wire = new SealedWire();
        Kit.send(wire, SERVER, payload);
        wire.damage(CLIENT, 0, 9, 255);
        Kit.same("another payload is not broken", wire.come(CLIENT), 2);
    }

    /** 12 bytes of n: 4 to 11 of padding fit, each the least for its payload, if the padding is zeros. */
    private static void shiftedPadding() {
        for (int padding = 0; padding < 256; padding++) {
            SealedWire wire = new SealedWire();
            Kit.send(wire, CLIENT, Kit.bytes(94, 0, 0, 0));
            Kit.same("the padding is 7", wire.packet(SERVER, 0, 4), 7);
            wire.damage(SERVER, 0, 4, 7 ^ padding);
            if (padding >= 4 && padding <= 10) {
                Kit.same("padding " + padding, wire.come(SERVER), 94);
                Kit.same("the payload differs", wire.about(SERVER, 3), 10 - padding);
            } else {
                checkBroken("padding " + padding, wire, SERVER);
            }
        }
        SealedWire wire = new SealedWire();
        Kit.send(wire, CLIENT, Scene.start(Kit.bytes(2), 200));
        Kit.same("the longest one's padding", wire.packet(SERVER, 0, 4), 11);
        wire.damage(SERVER, 0, 4, 11 ^ 4);
        checkBroken("a payload of 207", wire, SERVER);
    }

    private static void brokenHidden() {
        int size = Oracle.hidden(Scene.DATA, Scene.firstKeys(CLIENT), 3).length;
        for (int i = 0; i < size; i++) {
            SealedWire wire = Scene.agreed();
            Kit.send(wire, CLIENT, Scene.DATA);
            wire.damage(SERVER, 0, i, 1 << i % 8);
            checkBroken("hidden byte " + i, wire, SERVER);
        }
        // A packet without keys where keys are due, and the other way round.
        SealedWire wire = Scene.ready();
        wire.begin(CLIENT);
        wire.run(3);
        Kit.send(wire, SERVER, Scene.DATA);
        for (int i = 0; i < 97; i++) {
            wire.damage(CLIENT, 0, 5 + i, wire.packet(CLIENT, 0, 5 + i));
        }
        wire.damage(CLIENT, 0, 5, 2);
        wire.damage(CLIENT, 1, 5, 21 ^ 2);
        Kit.same("REPLY became IGNORE", wire.come(CLIENT), 2);
        Kit.same("NEW became IGNORE", wire.come(CLIENT), 2);
        checkBroken("a packet with keys at an end without", wire, CLIENT);
    }

    private static void sendThrows() {
        SealedWire wire = Scene.ready();
        for (int end : new int[] {-1, 2, Integer.MAX_VALUE}) {
            Kit.thrown("no end, no tape", () -> wire.send(end), Kit.NO_SUCH);
            wire.type(20, 1);
            Kit.thrown("no end, a wrong byte", () -> wire.send(end), Kit.NO_SUCH);
        }
        Kit.thrown("no tape", () -> wire.send(CLIENT), Kit.ARGUMENT);
        Kit.type(wire, Scene.start(Kit.bytes(20), 201));
        Kit.thrown("201 bytes", () -> wire.send(CLIENT), Kit.ARGUMENT);
        for (int first = 0; first < 256; first++) {
            SealedWire fresh = new SealedWire();
            fresh.type(first, 1);
            boolean reserved = first == 20 || first == 21 || first == 30 || first == 31;
            Kit.thrown("first byte " + first, () -> fresh.send(SERVER), reserved ? Kit.STATE : Kit.NONE);
            Kit.same("packets", fresh.about(CLIENT, 5), reserved ? 0 : 1);
            Kit.same("sent", fresh.about(SERVER, 1), reserved ? 0 : 1);
        }
    }

    private static void sendAmidAnExchange() {
        SealedWire wire = Scene.ready();
        wire.begin(CLIENT);
        for (int first : new int[] {94, 0, 4, 77, 255, 20, 31}) {
            wire.type(first, 1);
            Kit.thrown("amid it " + first, () -> wire.send(CLIENT), Kit.STATE);
        }
        for (int first : new int[] {2, 3}) {
            wire.type(first, 1);
            Kit.thrown("amid it " + first, () -> wire.send(CLIENT), Kit.NONE);
        }
        wire.type(94, 1);
        Kit.thrown("the server has not begun", () -> wire.send(SERVER), Kit.NONE);
        wire.run(50);
        Kit.same("all went well", wire.about(SERVER, 4), 1);

        SealedWire other = Scene.ready();
        other.begin(CLIENT);
        other.run(3);
        other.type(94, 1);
        Kit.thrown("the server has sent NEW", () -> other.send(SERVER), Kit.NONE);
        other.type(94, 1);
        Kit.thrown("the client has not", () -> other.send(CLIENT), Kit.STATE);
        other.come(CLIENT);
        other.type(94, 1);
        Kit.thrown("the client has", () -> other.send(CLIENT), Kit.NONE);
        other.run(50);
        Kit.same("both live", other.about(CLIENT, 0) + other.about(SERVER, 0), 2);

        other.begin(CLIENT);
        other.type(94, 1);
        Kit.thrown("the NEW of the exchange before does not count", () -> other.send(CLIENT), Kit.STATE);

        SealedWire third = Scene.ready();
        third.begin(SERVER);
        third.type(1, 1);
        Kit.thrown("END amid it", () -> third.send(SERVER), Kit.NONE);
        Kit.same("it ended", third.about(SERVER, 0), 0);
    }

    private static void sendEnd() {
        SealedWire wire = new SealedWire();
        Kit.send(wire, CLIENT, Kit.bytes(1, 2, 3));
        Kit.same("the sender ended", Kit.about(wire, CLIENT), "0 1 0 0 0 0 0 0 -1");
        Kit.same("END goes", Kit.packet(wire, SERVER, 0), Oracle.plain(Kit.bytes(1, 2, 3)));
        wire.type(94, 1);
        Kit.thrown("send after the end", () -> wire.send(CLIENT), Kit.STATE);
        Kit.thrown("an empty tape is named first", () -> wire.send(CLIENT), Kit.ARGUMENT);
    }

    private static void packetThrows() {
        SealedWire wire = new SealedWire();
        Kit.send(wire, CLIENT, Scene.DATA);
        Kit.send(wire, CLIENT, Scene.IGNORE);
        int size = wire.packet(SERVER, 1, -1);
        Kit.same("the size", size, Oracle.plain(Scene.IGNORE).length);
        for (int i : new int[] {-2, size, size + 1, Integer.MIN_VALUE, Integer.MAX_VALUE}) {
            Kit.thrown("packet byte " + i, () -> wire.packet(SERVER, 1, i), Kit.INDEX);
            Kit.thrown("no such packet", () -> wire.packet(SERVER, 2, i), Kit.NO_SUCH);
            Kit.thrown("no such end", () -> wire.packet(2, 0, i), Kit.NO_SUCH);
        }
        for (int k : new int[] {-1, 2, 12, Integer.MIN_VALUE, Integer.MAX_VALUE}) {
            Kit.thrown("packet " + k, () -> wire.packet(SERVER, k, -1), Kit.NO_SUCH);
        }
        Kit.thrown("none to the client", () -> wire.packet(CLIENT, 0, -1), Kit.NO_SUCH);
        wire.come(SERVER);
        Kit.same("the second is the first now", Kit.packet(wire, SERVER, 0), Oracle.plain(Scene.IGNORE));
    }

    private static void damageThrows() {
        SealedWire wire = new SealedWire();
        Kit.send(wire, CLIENT, Scene.DATA);
        byte[] before = Kit.packet(wire, SERVER, 0);
        for (int x : new int[] {-1, 256, Integer.MIN_VALUE, Integer.MAX_VALUE}) {
            Kit.thrown("damage by " + x, () -> wire.damage(SERVER, 0, 0, x), Kit.ARGUMENT);
            Kit.thrown("no such byte", () -> wire.damage(SERVER, 0, -1, x), Kit.INDEX);
            Kit.thrown("no such byte", () -> wire.damage(SERVER, 0, before.length, x), Kit.INDEX);
            Kit.thrown("no such packet", () -> wire.damage(SERVER, 1, -1, x), Kit.NO_SUCH);
            Kit.thrown("no such packet", () -> wire.damage(SERVER, -1, 0, x), Kit.NO_SUCH);
            Kit.thrown("no such end", () -> wire.damage(2, 0, 0, x), Kit.NO_SUCH);
        }
        Kit.same("nothing changed", Kit.packet(wire, SERVER, 0), before);
        wire.damage(SERVER, 0, 15, 0);
        Kit.same("by 0 nothing changes", Kit.packet(wire, SERVER, 0), before);
        wire.damage(SERVER, 0, 15, 255);
        wire.damage(SERVER, 0, 15, 15);
        Kit.same("XOR", wire.packet(SERVER, 0, 15), 240);
    }

    private static void gotThrows() {
        SealedWire wire = new SealedWire();
        Kit.send(wire, CLIENT, Scene.DATA);
        Kit.send(wire, CLIENT, Kit.bytes(94));
        Kit.send(wire, CLIENT, Kit.bytes(94, 255));
        wire.run(50);
        Kit.same("one behind the other", Kit.got(wire, SERVER), Kit.bytes(5, 6, 7, 255));
        for (int i : new int[] {-1, 4, Integer.MIN_VALUE, Integer.MAX_VALUE}) {
            Kit.thrown("got byte " + i, () -> wire.got(SERVER, i), Kit.INDEX);
            Kit.thrown("no such end", () -> wire.got(2, i), Kit.NO_SUCH);
            Kit.thrown("no such end", () -> wire.got(-1, i), Kit.NO_SUCH);
        }
        Kit.thrown("the client got nothing", () -> wire.got(CLIENT, 0), Kit.INDEX);
        Kit.same("in the end", Arrays.toString(Kit.got(wire, CLIENT)), "[]");
    }
}
