import java.util.Arrays;

/** Promises 2 (type), 3 (set: its exceptions and the tape) and 8 (out). */
public final class TapeTest {
    public static void main(String[] args) {
        typeTakesTheLowestBytes();
        typeRefusesWrongCounts();
        typeHasALimit();
        setAsksForTheSize();
        everyCallThatTakesTheTapeEmptiesIt();
        outIsWhatCameOutLast();
        Kit.finish();
    }

    private static void tapeIs(String what, SealedWire wire, byte[] row) {
        wire.hash();
        Kit.same(what, Kit.out(wire, 32), Oracle.hash(row));
    }

    private static void typeTakesTheLowestBytes() {
        long w = 0xF1E2D3C4B5A69788L;
        for (int n = 1; n <= 8; n++) {
            SealedWire wire = new SealedWire();
            Kit.same("type " + n, wire.type(w, n), true);
            Kit.same("type one more", wire.type(-2, 1), true);
            byte[] due = Arrays.copyOf(Kit.bytes(0x88, 0x97, 0xA6, 0xB5, 0xC4, 0xD3, 0xE2, 0xF1), n);
            tapeIs("the tape after " + n, wire, Kit.join(due, Kit.bytes(254)));
        }
    }

    private static void typeRefusesWrongCounts() {
        SealedWire wire = new SealedWire();
        wire.type(5, 1);
        for (int n : new int[] {0, -1, 9, 16, Integer.MIN_VALUE, Integer.MAX_VALUE}) {
            Kit.same("type of " + n, wire.type(1, n), false);
        }
        tapeIs("the tape is left alone", wire, Kit.bytes(5));
    }

    private static void typeHasALimit() {
        SealedWire wire = new SealedWire();
        byte[] row = Kit.rising(0, 596);
        Kit.type(wire, row);
        Kit.same("5 more than 595", wire.type(0, 5), false);
        Kit.same("8 more", wire.type(0, 8), false);
        Kit.same("just 600", wire.type(0x01020304, 4), true);
        for (int n = 1; n <= 8; n++) {
            Kit.same("beyond 600", wire.type(0, n), false);
        }
        tapeIs("600 bytes", wire, Kit.join(row, Kit.bytes(4, 3, 2, 1)));
        Kit.same("there is room again", wire.type(0, 8), true);
    }

    private static void setAsksForTheSize() {
        for (int what = 0; what < 6; what++) {
            int size = what < 4 ? 32 : 8;
            for (int n : new int[] {0, 1, 7, 8, 9, 31, 32, 33, 64, 600}) {
                SealedWire wire = new SealedWire();
                Kit.type(wire, new byte[n]);
                int which = what;
                Kit.thrown("set(" + what + ") of " + n, () -> wire.set(which), n == size ? Kit.NONE : Kit.ARGUMENT);
                tapeIs("the tape is taken", wire, new byte[0]);
            }
        }
        for (int what : new int[] {-1, 6, 32, Integer.MIN_VALUE, Integer.MAX_VALUE}) {
            for (int n : new int[] {0, 8, 32}) {
                SealedWire wire = new SealedWire();
                Kit.type(wire, new byte[n]);
                Kit.thrown("set(" + what + ")", () -> wire.set(what), Kit.INDEX);
                tapeIs("the tape is taken", wire, new byte[0]);
            }
        }
    }

    private static void everyCallThatTakesTheTapeEmptiesIt() {
        SealedWire wire = new SealedWire();
        int[] sizes = {64, 3, 32, 40, 20};
        Kit.Call[] calls = {wire::multiply, wire::hash, () -> wire.stream(0, 0), wire::tag, () -> wire.send(0)};
        for (int i = 0; i < calls.length; i++) {
            Kit.type(wire, new byte[sizes[i]]);
            Kit.thrown("call " + i, calls[i], Kit.NONE);
            tapeIs("the tape after call " + i, wire, new byte[0]);
        }
        Kit.Call[] bad = {wire::multiply, () -> wire.stream(0, 0), wire::tag, () -> wire.send(0), () -> wire.send(2)};
        int[] badSizes = {63, 31, 31, 201, 1};
        for (int i = 0; i < bad.length; i++) {
            Kit.type(wire, new byte[badSizes[i]]);
            Kit.thrown("bad call " + i, bad[i], i == 4 ? Kit.NO_SUCH : Kit.ARGUMENT);
            tapeIs("the tape after bad call " + i, wire, new byte[0]);
        }
        wire.type(7, 1);
        wire.begin(0);
        wire.run(50);
        wire.come(0);
        tapeIs("other calls leave the tape alone", wire, Kit.bytes(7));
    }

    private static void outIsWhatCameOutLast() {
        SealedWire wire = new SealedWire();
        Kit.thrown("out of nothing", () -> wire.out(0), Kit.INDEX);
        wire.hash();
        bounds(wire, 32);
        Kit.type(wire, new byte[32]);
        wire.stream(1, 2);
        bounds(wire, 64);
        byte[] stream = Kit.out(wire, 64);
        Kit.type(wire, new byte[31]);
        Kit.thrown("tag", wire::tag, Kit.ARGUMENT);
        Kit.thrown("multiply", wire::multiply, Kit.ARGUMENT);
        Kit.thrown("stream", () -> wire.stream(0, 0), Kit.ARGUMENT);
        Kit.same("a call that throws changes nothing", Kit.out(wire, 64), stream);
        bounds(wire, 64);
        Kit.type(wire, new byte[32]);
        wire.tag();
        bounds(wire, 16);
        Kit.type(wire, Kit.rising(1, 64));
        wire.multiply();
        bounds(wire, 32);
    }

    private static void bounds(SealedWire wire, int size) {
        for (int i : new int[] {-1, size, size + 1, Integer.MIN_VALUE, Integer.MAX_VALUE}) {
            Kit.thrown("out(" + i + ") of " + size, () -> wire.out(i), Kit.INDEX);
        }
        Kit.thrown("out of the first", () -> wire.out(0), Kit.NONE);
        Kit.thrown("out of the last", () -> wire.out(size - 1), Kit.NONE);
    }
}
