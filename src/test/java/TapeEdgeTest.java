import java.util.Arrays;

/** The tape and the calls that take it: every sentence with a boundary, on both sides of it (promises 2 to 8). */
public final class TapeEdgeTest {
    public static void main(String[] args) {
        atMost600();
        oneToEight();
        lowestFirst();
        takenByEveryCall();
        takenByCallsThatThrow();
        leftByTheOthers();
        setSizes();
        setWhat();
        multiplySizes();
        streamArguments();
        tagSizes();
        hashOfAnyTape();
        outBounds();
        outStays();
        Kit.finish();
    }

    private static SealedWire typed(int size) {
        SealedWire wire = new SealedWire();
        Kit.type(wire, Kit.rising(3, size));
        return wire;
    }

    private static void tapeIs(String what, SealedWire wire, byte[] row) {
        wire.hash();
        Kit.same(what + ": the tape", Kit.out(wire, 32), Oracle.hash(row));
    }

    private static void atMost600() {
        Kit.sentence("THE TAPE is a row of at most 600");
        for (int n = 1; n <= 8; n++) {
            SealedWire fits = typed(600 - n);
            Kit.same(n + " behind " + (600 - n), fits.type(-1, n), true);
            byte[] more = new byte[n];
            Arrays.fill(more, (byte) 255);
            tapeIs("just 600", fits, Kit.join(Kit.rising(3, 600 - n), more));

            SealedWire over = typed(601 - n);
            Kit.same(n + " behind " + (601 - n), over.type(-1, n), false);
            tapeIs("none of them came", over, Kit.rising(3, 601 - n));
        }
        SealedWire full = typed(600);
        full.hash();
        Kit.same("there is room when it was taken", full.type(1, 8), true);
    }

    private static void oneToEight() {
        Kit.sentence("False, changing nothing, when n is not 1 .. 8");
        int[] counts = {Integer.MIN_VALUE, -8, -1, 0, 1, 8, 9, 16, 600, 601, Integer.MAX_VALUE};
        for (int n : counts) {
            SealedWire wire = typed(2);
            boolean taken = n == 1 || n == 8;
            Kit.same("type of " + n, wire.type(0, n), taken);
            tapeIs("type of " + n, wire, taken ? Kit.join(Kit.rising(3, 2), new byte[n]) : Kit.rising(3, 2));
        }
    }

    private static void lowestFirst() {
        Kit.sentence("The n lowest bytes of w come behind the tape, the lowest first");
        for (long w : new long[] {0, -1, Long.MIN_VALUE, Long.MAX_VALUE, 0x80000000L, 0x0102030405060708L}) {
            for (int n = 1; n <= 8; n++) {
                SealedWire wire = new SealedWire();
                byte[] due = new byte[n];
                for (int i = 0; i < n; i++) {
                    due[i] = (byte) (w >> (8 * i));
                }
                wire.type(w, n);
                tapeIs(n + " of " + w, wire, due);
            }
        }
    }

    private static void takenByEveryCall() {
        Kit.sentence("a call that takes it empties it");
        for (int what = 0; what < 6; what++) {
            SealedWire wire = typed(what < 4 ? 32 : 8);
            int which = what;
            emptied("set(" + what + ")", wire, () -> wire.set(which), Kit.NONE);
        }
        SealedWire a = typed(64);
        emptied("multiply", a, a::multiply, Kit.NONE);
        SealedWire b = typed(600);
        emptied("hash", b, b::hash, Kit.NONE);
        SealedWire c = typed(32);
        emptied("stream", c, () -> c.stream(0, 0), Kit.NONE);
        SealedWire d = typed(600);
        emptied("tag", d, d::tag, Kit.NONE);
        SealedWire e = typed(200);
        emptied("send", e, () -> e.send(0), Kit.NONE);
    }

    private static void takenByCallsThatThrow() {
        Kit.sentence("A call that throws changes nothing (but for the tape)");
        for (int what : new int[] {-1, 0, 1, 2, 3, 4, 5, 6}) {
            SealedWire wire = typed(9);
            emptied("set(" + what + ")", wire, () -> wire.set(what), what < 0 || what > 5 ? Kit.INDEX : Kit.ARGUMENT);
        }
        SealedWire a = typed(63);
        emptied("multiply", a, a::multiply, Kit.ARGUMENT);
        SealedWire b = typed(31);
        emptied("stream of 31", b, () -> b.stream(0, 0), Kit.ARGUMENT);
        SealedWire c = typed(32);
        emptied("stream, nonce -1", c, () -> c.stream(-1, 0), Kit.ARGUMENT);
        SealedWire d = typed(32);
        emptied("stream, counter -1", d, () -> d.stream(0, -1), Kit.ARGUMENT);
        SealedWire e = typed(31);
        emptied("tag", e, e::tag, Kit.ARGUMENT);
        SealedWire f = typed(1);
        emptied("send to no end", f, () -> f.send(2), Kit.NO_SUCH);
        SealedWire g = typed(201);
        emptied("send of 201", g, () -> g.send(0), Kit.ARGUMENT);
        SealedWire h = new SealedWire();
        h.type(20, 1);
        emptied("send of INIT", h, () -> h.send(0), Kit.STATE);
    }

    private static void emptied(String what, SealedWire wire, Kit.Call call, String want) {
        Kit.thrown(what, call, want);
        tapeIs(what, wire, new byte[0]);
    }

    private static void leftByTheOthers() {
        Kit.sentence("a call that takes it empties it");
        SealedWire wire = typed(5);
        Kit.Call[] calls = {
            () -> wire.begin(0), () -> wire.come(1), () -> wire.run(50), () -> wire.about(0, 0),
            () -> wire.begin(2), () -> wire.come(2), () -> wire.run(51), () -> wire.about(0, 9),
            () -> wire.packet(0, 0, 0), () -> wire.damage(0, 0, 0, 0), () -> wire.got(0, 0),
            () -> wire.session(0, 0), () -> wire.out(0),
        };
        for (Kit.Call call : calls) {
            Kit.answer(call);
        }
        tapeIs("after all the others", wire, Kit.rising(3, 5));
    }

    private static void setSizes() {
        Kit.sentence("IllegalArgumentException when it has not so many");
        for (int what = 0; what < 6; what++) {
            int size = what < 4 ? 32 : 8;
            for (int n : new int[] {0, size - 1, size, size + 1, 40 - size, 600}) {
                SealedWire wire = typed(n);
                int which = what;
                Kit.thrown("set(" + what + ") of " + n, () -> wire.set(which), n == size ? Kit.NONE : Kit.ARGUMENT);
            }
        }
    }

    private static void setWhat() {
        Kit.sentence("IndexOutOfBoundsException for another what");
        for (int what : new int[] {Integer.MIN_VALUE, -1, 0, 3, 4, 5, 6, 7, Integer.MAX_VALUE}) {
            boolean known = what >= 0 && what <= 5;
            SealedWire wire = typed(what == 4 || what == 5 ? 8 : 32);
            Kit.thrown("set(" + what + ")", () -> wire.set(what), known ? Kit.NONE : Kit.INDEX);
            Kit.thrown("set(" + what + ") of nothing", () -> wire.set(what), known ? Kit.ARGUMENT : Kit.INDEX);
        }
    }

    private static void multiplySizes() {
        Kit.sentence("IllegalArgumentException when it has not 64 bytes");
        for (int n : new int[] {0, 32, 63, 64, 65, 128, 600}) {
            SealedWire wire = typed(n);
            Kit.thrown("multiply of " + n, wire::multiply, n == 64 ? Kit.NONE : Kit.ARGUMENT);
        }
    }

    private static void streamArguments() {
        Kit.sentence("IllegalArgumentException when it has not 32 bytes, or nonce or counter is below 0");
        for (int n : new int[] {0, 31, 32, 33, 64, 600}) {
            SealedWire wire = typed(n);
            Kit.thrown("stream of " + n, () -> wire.stream(0, 0), n == 32 ? Kit.NONE : Kit.ARGUMENT);
        }
        for (long nonce : new long[] {Long.MIN_VALUE, -4294967296L, -1, 0, 1, 4294967295L, 4294967296L,
                Long.MAX_VALUE}) {
            SealedWire wire = typed(32);
            Kit.thrown("nonce " + nonce, () -> wire.stream(nonce, 0), nonce < 0 ? Kit.ARGUMENT : Kit.NONE);
            if (nonce >= 0) {
                Kit.same("nonce " + nonce, Kit.out(wire, 64), Oracle.stream(Kit.rising(3, 32), nonce, 0));
            }
        }
        for (int counter : new int[] {Integer.MIN_VALUE, -1, 0, 1, Integer.MAX_VALUE}) {
            SealedWire wire = typed(32);
            Kit.thrown("counter " + counter, () -> wire.stream(7, counter), counter < 0 ? Kit.ARGUMENT : Kit.NONE);
            if (counter >= 0) {
                Kit.same("counter " + counter, Kit.out(wire, 64), Oracle.stream(Kit.rising(3, 32), 7, counter));
            }
        }
    }

    private static void tagSizes() {
        Kit.sentence("IllegalArgumentException when it has less than 32");
        for (int n : new int[] {0, 1, 31, 32, 33, 47, 48, 49, 600}) {
            SealedWire wire = typed(n);
            Kit.thrown("tag of " + n, wire::tag, n < 32 ? Kit.ARGUMENT : Kit.NONE);
            if (n == 32) {
                Kit.same("of an empty row it is the key's other half", Kit.out(wire, 16), Kit.rising(19, 16));
            }
        }
    }

    private static void hashOfAnyTape() {
        Kit.sentence("The tape is taken: its HASH comes out");
        for (int n : new int[] {0, 1, 599, 600}) {
            tapeIs(n + " bytes", typed(n), Kit.rising(3, n));
        }
    }

    private static void outBounds() {
        Kit.sentence("Byte i of what came out last. IndexOutOfBoundsException.");
        SealedWire wire = new SealedWire();
        bounds("nothing came out yet", wire, 0);
        Kit.type(wire, Kit.rising(1, 64));
        wire.multiply();
        bounds("multiply", wire, 32);
        Kit.type(wire, Kit.rising(1, 32));
        wire.stream(0, 0);
        bounds("stream", wire, 64);
        wire.hash();
        bounds("hash after stream", wire, 32);
        Kit.type(wire, Kit.rising(1, 32));
        wire.tag();
        bounds("tag after hash", wire, 16);
    }

    private static void bounds(String what, SealedWire wire, int size) {
        for (int i : new int[] {Integer.MIN_VALUE, -1, 0, size - 1, size, size + 1, 63, 64, Integer.MAX_VALUE}) {
            Kit.thrown(what + ": out(" + i + ")", () -> wire.out(i), i >= 0 && i < size ? Kit.NONE : Kit.INDEX);
        }
    }

    private static void outStays() {
        Kit.sentence("Byte i of what came out last");
        SealedWire wire = Scene.ready();
        wire.hash();
        wire.begin(0);
        wire.run(50);
        Kit.send(wire, 0, Scene.DATA);
        wire.run(50);
        Kit.same("exchanges and packets let nothing come out", Kit.out(wire, 32), Oracle.hash(new byte[0]));
        Kit.type(wire, new byte[31]);
        Kit.thrown("tag", wire::tag, Kit.ARGUMENT);
        Kit.thrown("multiply", wire::multiply, Kit.ARGUMENT);
        Kit.type(wire, new byte[32]);
        Kit.thrown("stream", () -> wire.stream(-1, 0), Kit.ARGUMENT);
        Kit.same("nor do calls that throw", Kit.out(wire, 32), Oracle.hash(new byte[0]));
    }
}
