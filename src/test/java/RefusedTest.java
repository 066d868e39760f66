import java.util.ArrayList;
import java.util.List;
import java.util.function.Consumer;
import java.util.function.Supplier;

/**
 * After a refused call nothing has changed (but for the tape): of two wires that are alike one is asked for what it
 * must refuse; then both must look alike, and still do so when both have gone on for a while.
 */
public final class RefusedTest {
    private static final int CLIENT = Scene.CLIENT;
    private static final int SERVER = Scene.SERVER;

    private interface Ask {
        int ask();
    }

    private final String scene;
    private final Supplier<SealedWire> maker;

    private RefusedTest(String scene, Supplier<SealedWire> maker) {
        this.scene = scene;
        this.maker = maker;
    }

    public static void main(String[] args) {
        Kit.sentence("A call that throws changes nothing (but for the tape)");
        RefusedTest[] all = {
            new RefusedTest("fresh", RefusedTest::fresh),
            new RefusedTest("begun", RefusedTest::begun),
            new RefusedTest("replied", RefusedTest::replied),
            new RefusedTest("agreed", RefusedTest::agreed),
        };
        for (RefusedTest test : all) {
            test.wrongEnds();
            test.wrongPlaces();
            test.wrongNumbers();
            test.wrongTapes();
            test.wrongPayloads();
        }
        new RefusedTest("begun", RefusedTest::begun).amidAnExchange(CLIENT);
        new RefusedTest("replied", RefusedTest::replied).amidAnExchange(CLIENT);
        new RefusedTest("ended", RefusedTest::ended).afterTheEnd();
        typeRefused();
        Kit.finish();
    }

    private static SealedWire fresh() {
        SealedWire wire = Scene.ready();
        Kit.type(wire, Kit.rising(1, 40));
        wire.tag();
        Kit.send(wire, CLIENT, Scene.DATA);
        wire.come(SERVER);
        Kit.send(wire, CLIENT, Scene.IGNORE);
        Kit.send(wire, SERVER, Scene.DATA);
        return wire;
    }

    private static SealedWire begun() {
        SealedWire wire = fresh();
        wire.begin(CLIENT);
        return wire;
    }

    /** The server has sent NEW, the client has sent REQUEST. */
    private static SealedWire replied() {
        SealedWire wire = Scene.ready();
        Kit.type(wire, Kit.rising(1, 40));
        wire.tag();
        Kit.send(wire, CLIENT, Scene.DATA);
        wire.come(SERVER);
        wire.begin(CLIENT);
        wire.run(3);
        wire.type(2, 1);
        wire.send(CLIENT);
        return wire;
    }

    private static SealedWire agreed() {
        SealedWire wire = Scene.agreed();
        Kit.type(wire, Kit.rising(1, 40));
        wire.tag();
        Kit.send(wire, CLIENT, Scene.DATA);
        wire.come(SERVER);
        Kit.send(wire, CLIENT, Kit.bytes(3, 0, 0, 0, 4));
        Kit.send(wire, SERVER, Scene.DATA);
        return wire;
    }

    private static SealedWire ended() {
        SealedWire wire = agreed();
        Kit.send(wire, CLIENT, Scene.END);
        return wire;
    }

    /** A call that takes the tape: what is typed for it is gone, and the tape is empty as the other wire's. */
    private void taking(String what, byte[] typed, Consumer<SealedWire> call, String due) {
        SealedWire one = maker.get();
        SealedWire other = maker.get();
        Kit.type(one, typed);
        compare(what, one, other, call, due);
    }

    /** A call that leaves the tape alone: both wires have the same on it. */
    private void leaving(String what, Consumer<SealedWire> call, String due) {
        SealedWire one = maker.get();
        SealedWire other = maker.get();
        Kit.type(one, Kit.bytes(4, 5, 6));
        Kit.type(other, Kit.bytes(4, 5, 6));
        compare(what, one, other, call, due);
    }

    private void compare(String what, SealedWire one, SealedWire other, Consumer<SealedWire> call, String due) {
        Kit.thrown(scene + ": " + what, () -> call.accept(one), due);
        Kit.same(scene + ": nothing is changed by " + what, seen(one), seen(other));
        Kit.same(scene + ": nor later by " + what, goneOn(one), goneOn(other));
    }

    private void wrongEnds() {
        for (int end : new int[] {-1, 2}) {
            leaving("begin " + end, wire -> wire.begin(end), Kit.NO_SUCH);
            leaving("come " + end, wire -> wire.come(end), Kit.NO_SUCH);
            leaving("packet to " + end, wire -> wire.packet(end, 0, -1), Kit.NO_SUCH);
            leaving("damage to " + end, wire -> wire.damage(end, 0, 0, 1), Kit.NO_SUCH);
            leaving("got of " + end, wire -> wire.got(end, 0), Kit.NO_SUCH);
            leaving("about " + end, wire -> wire.about(end, 0), Kit.NO_SUCH);
            leaving("session of " + end, wire -> wire.session(end, 0), Kit.NO_SUCH);
            taking("send of " + end, Scene.DATA, wire -> wire.send(end), Kit.NO_SUCH);
            taking("END of " + end, Scene.END, wire -> wire.send(end), Kit.NO_SUCH);
        }
    }

    private void wrongPlaces() {
        for (int end = 0; end < 2; end++) {
            int who = end;
            leaving("packet 12", wire -> wire.packet(who, 12, 0), Kit.NO_SUCH);
            leaving("packet -1", wire -> wire.packet(who, -1, 0), Kit.NO_SUCH);
            leaving("packet byte -2", wire -> wire.packet(who, 0, -2), Kit.INDEX);
            leaving("packet byte 228", wire -> wire.packet(who, 0, 228), Kit.INDEX);
            leaving("damage of packet 12", wire -> wire.damage(who, 12, 0, 1), Kit.NO_SUCH);
            leaving("damage of packet -1", wire -> wire.damage(who, -1, 0, 1), Kit.NO_SUCH);
            leaving("damage of byte -1", wire -> wire.damage(who, 0, -1, 1), Kit.INDEX);
            leaving("damage of byte 228", wire -> wire.damage(who, 0, 228, 1), Kit.INDEX);
            leaving("damage by -1", wire -> wire.damage(who, 0, 0, -1), Kit.ARGUMENT);
            leaving("damage by 256", wire -> wire.damage(who, 0, 0, 256), Kit.ARGUMENT);
            leaving("got 2000", wire -> wire.got(who, 2000), Kit.INDEX);
            leaving("about 9", wire -> wire.about(who, 9), Kit.INDEX);
            leaving("session 32", wire -> wire.session(who, 32), Kit.INDEX);
        }
    }

    private void wrongNumbers() {
        leaving("run -1", wire -> wire.run(-1), Kit.ARGUMENT);
        leaving("run 51", wire -> wire.run(51), Kit.ARGUMENT);
        leaving("out -1", wire -> wire.out(-1), Kit.INDEX);
        leaving("out 16", wire -> wire.out(16), Kit.INDEX);
    }

    private void wrongTapes() {
        for (int what = -1; what <= 6; what++) {
            int which = what;
            boolean known = what >= 0 && what <= 5;
            int size = what == 4 || what == 5 ? 8 : 32;
            for (int off = -1; off <= 1; off++) {
                if (off != 0 || !known) {
                    taking("set " + what + " of " + (size + off), Kit.rising(70, size + off),
                            wire -> wire.set(which), known ? Kit.ARGUMENT : Kit.INDEX);
                }
            }
        }
        taking("multiply of 63", Kit.rising(70, 63), SealedWire::multiply, Kit.ARGUMENT);
        taking("multiply of 65", Kit.rising(70, 65), SealedWire::multiply, Kit.ARGUMENT);
        taking("stream of 31", Kit.rising(70, 31), wire -> wire.stream(0, 0), Kit.ARGUMENT);
        taking("stream of 33", Kit.rising(70, 33), wire -> wire.stream(0, 0), Kit.ARGUMENT);
        taking("stream of nonce -1", Kit.rising(70, 32), wire -> wire.stream(-1, 0), Kit.ARGUMENT);
        taking("stream of counter -1", Kit.rising(70, 32), wire -> wire.stream(0, -1), Kit.ARGUMENT);
        taking("tag of 31", Kit.rising(70, 31), SealedWire::tag, Kit.ARGUMENT);
    }

    private void wrongPayloads() {
        for (int end = 0; end < 2; end++) {
            int who = end;
            taking("send of nothing", new byte[0], wire -> wire.send(who), Kit.ARGUMENT);
            taking("send of 201", Scene.start(Kit.bytes(2), 201), wire -> wire.send(who), Kit.ARGUMENT);
            taking("END of 201", Scene.start(Kit.bytes(1), 201), wire -> wire.send(who), Kit.ARGUMENT);
            taking("send of INIT", Scene.CLIENT_INIT, wire -> wire.send(who), Kit.STATE);
            taking("send of NEW", Scene.NEW, wire -> wire.send(who), Kit.STATE);
            taking("send of REQUEST", Scene.start(Kit.bytes(30), 33), wire -> wire.send(who), Kit.STATE);
            taking("send of REPLY", Scene.reply(), wire -> wire.send(who), Kit.STATE);
        }
    }

    private void amidAnExchange(int end) {
        leaving("begin", wire -> wire.begin(end), Kit.STATE);
        leaving("session", wire -> wire.session(end, 0), Kit.STATE);
        taking("send of DATA", Scene.DATA, wire -> wire.send(end), Kit.STATE);
        taking("send of what is not known", Kit.bytes(77), wire -> wire.send(end), Kit.STATE);
    }

    private void afterTheEnd() {
        leaving("begin", wire -> wire.begin(CLIENT), Kit.STATE);
        taking("send of DATA", Scene.DATA, wire -> wire.send(CLIENT), Kit.STATE);
        taking("send of END", Scene.END, wire -> wire.send(CLIENT), Kit.STATE);
        taking("send of nothing", new byte[0], wire -> wire.send(CLIENT), Kit.ARGUMENT);
    }

    private static void typeRefused() {
        Kit.sentence("False, changing nothing");
        for (int n : new int[] {-1, 0, 9}) {
            SealedWire one = agreed();
            SealedWire other = agreed();
            Kit.type(one, Kit.rising(9, 5));
            Kit.type(other, Kit.rising(9, 5));
            Kit.same("type of " + n, one.type(1, n), false);
            Kit.same("nothing is changed by it", seen(one) + goneOn(one), seen(other) + goneOn(other));
        }
    }

    /** All that can be seen of a wire, but for its tape. */
    private static String seen(SealedWire wire) {
        List<Integer> all = new ArrayList<>();
        untilRefused(all, i -> wire.out(i));
        for (int end = 0; end < 2; end++) {
            int who = end;
            for (int what = 0; what < 9; what++) {
                all.add(wire.about(end, what));
            }
            untilRefused(all, i -> wire.got(who, i));
            all.add(answer(() -> wire.session(who, 0)));
            all.add(answer(() -> wire.session(who, 31)));
            for (int k = 0; k < wire.about(end, 5); k++) {
                int at = k;
                for (int i = 0; i < Math.min(24, wire.packet(end, k, -1)); i++) {
                    all.add(wire.packet(who, at, i));
                }
            }
        }
        return all.toString();
    }

    private static void untilRefused(List<Integer> all, Kit.Question question) {
        for (int i = 0; i < 600; i++) {
            int at = i;
            int answer = answer(() -> question.ask(at));
            all.add(answer);
            if (answer < 0) {
                return;
            }
        }
    }

    private static int answer(Ask question) {
        try {
            return question.ask();
        } catch (RuntimeException e) {
            return -100 - e.getClass().getSimpleName().length();
        }
    }

    /** The tape shows by its hash; an exchange and packets both ways show secrets, cookies, marks and keys. */
    private static String goneOn(SealedWire wire) {
        List<Integer> all = new ArrayList<>();
        wire.hash();
        for (int i = 0; i < 4; i++) {
            all.add(wire.out(i));
        }
        all.add(wire.run(50));
        all.add(answer(() -> begun(wire, SERVER)));
        all.add(wire.run(50));
        for (int end = 0; end < 2; end++) {
            int who = end;
            Kit.type(wire, Scene.DATA);
            all.add(answer(() -> sent(wire, who)));
        }
        return all + seen(wire);
    }

    private static int begun(SealedWire wire, int end) {
        wire.begin(end);
        return 1;
    }

    private static int sent(SealedWire wire, int end) {
        wire.send(end);
        return 1;
    }
}
