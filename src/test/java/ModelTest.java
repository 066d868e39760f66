import java.util.Random;

/** Random runs of at most 512 calls, every answer compared with the model's (promises 3 and 9 to 17). */
public final class ModelTest {
    private interface Ask {
        long ask();
    }

    private static final int[] FIRST_BYTES = {94, 94, 94, 94, 2, 3, 3, 77, 0, 255, 1, 20, 21, 30, 31};
    /** What makes one message of another, when a packet without keys is damaged by it. */
    private static final int[] SWITCHES = {94 ^ 20, 94 ^ 21, 2 ^ 21, 94 ^ 30, 94 ^ 31, 20 ^ 94, 30 ^ 2, 21 ^ 2, 31 ^ 2};

    private final Random random;
    private final SealedWire wire = new SealedWire();
    private final Model model = new Model();
    private final String name;
    private int calls = 1;

    private ModelTest(int seed) {
        random = new Random(seed);
        name = "run " + seed + " call ";
    }

    public static void main(String[] args) {
        for (int seed = 0; seed < 600; seed++) {
            new ModelTest(seed).go();
        }
        Kit.finish();
    }

    private void go() {
        int care = random.nextInt(4);
        boolean crowded = random.nextInt(3) == 0;
        prepare();
        while (calls < 400) {
            act(care);
            if (crowded && random.nextInt(8) == 0) {
                crowd(random.nextInt(2));
            }
            look();
        }
        lookAtAll();
    }

    /** IGNOREs, so that there is room for two packets more, for one or for none, or one is lost. */
    private void crowd(int end) {
        int count = 10 + random.nextInt(4) - model.about(1 - end, 5);
        for (int i = 0; i < count; i++) {
            type(Kit.bytes(2));
            both("crowd " + end, () -> wire.send(end), () -> model.send(end, Kit.bytes(2)));
        }
    }

    /** A few secrets only, so that the oracle need not multiply the same points again. */
    private byte[] row(int kind) {
        return Kit.rising(kind * 40 + random.nextInt(3), 32);
    }

    private void prepare() {
        byte[] host = row(2);
        set(0, row(0));
        set(1, row(1));
        set(2, host);
        set(3, random.nextInt(8) == 0 ? row(5) : Oracle.publicRow(host));
        set(4, Kit.rising(random.nextInt(256), 8));
        set(5, Kit.rising(random.nextInt(256), 8));
    }

    private void act(int care) {
        int end = end();
        switch (random.nextInt(12)) {
            case 0:
            case 1:
                both("begin " + end, () -> wire.begin(end), () -> model.begin(end));
                break;
            case 2:
            case 3:
            case 4:
                send(end, care);
                break;
            case 5:
            case 6:
            case 7:
                same("come " + end, () -> wire.come(end), () -> model.come(end));
                break;
            case 8:
            case 9:
                int n = random.nextInt(6) == 0 ? random.nextInt(60) - 5 : random.nextInt(8);
                same("run " + n, () -> wire.run(n), () -> model.run(n));
                break;
            case 10:
                if (random.nextInt(1 + 4 * care) == 0) {
                    damage(end);
                }
                break;
            default:
                change();
                break;
        }
    }

    private int end() {
        return random.nextInt(60) == 0 ? random.nextInt(7) - 3 : random.nextInt(2);
    }

    private void send(int end, int care) {
        int choices = care == 0 ? FIRST_BYTES.length : 10;
        int first = FIRST_BYTES[random.nextInt(choices)];
        int size = 1 + random.nextInt(random.nextInt(3) == 0 ? 200 : 14);
        if (random.nextInt(40) == 0) {
            size = random.nextInt(2) * 201;
        }
        byte[] payload = Kit.rising(random.nextInt(256), size);
        if (random.nextInt(3) == 0) {
            payload = new byte[size];
        }
        if (size > 0) {
            payload[0] = (byte) first;
        }
        byte[] row = payload;
        type(row);
        both("send " + end + " " + first, () -> wire.send(end), () -> model.send(end, row));
    }

    private void damage(int end) {
        int k = random.nextInt(3) == 0 ? random.nextInt(14) - 1 : 0;
        int i = random.nextInt(3) == 0 ? random.nextInt(232) - 2 : 3 + random.nextInt(4);
        int x = random.nextInt(10) == 0 ? random.nextInt(300) - 20 : 1 << random.nextInt(8);
        if (i == 5) {
            x = SWITCHES[random.nextInt(SWITCHES.length)];
        }
        int with = x;
        both("damage " + end + " " + k + " " + i + " " + x,
                () -> wire.damage(end, k, i, with), () -> model.damage(end, k, i, with));
    }

    private void change() {
        switch (random.nextInt(8)) {
            case 0: set(0, row(0)); break;
            case 1: set(1, row(1)); break;
            case 2: set(4, Kit.rising(random.nextInt(256), 8)); break;
            case 3: set(5, Kit.rising(random.nextInt(256), 8)); break;
            case 4:
                byte[] host = row(2);
                set(2, host);
                set(3, Oracle.publicRow(host));
                break;
            case 5: set(random.nextInt(10) - 2, new byte[random.nextInt(2) * 3]); break;
            default: break;
        }
    }

    private void set(int what, byte[] row) {
        type(row);
        both("set " + what, () -> wire.set(what), () -> model.set(what, row));
    }

    private void type(byte[] row) {
        calls += (row.length + 7) / 8;
        Kit.type(wire, row);
    }

    /** Looks at some of what can be seen, within the bounds and beyond them. */
    private void look() {
        for (int turn = 0; turn < 3; turn++) {
            int end = end();
            int what = random.nextInt(11) - 1;
            int i = random.nextInt(random.nextInt(4) == 0 ? 2100 : 40) - 2;
            int k = random.nextInt(random.nextInt(2) == 0 ? 1 : 14) - random.nextInt(2);
            switch (random.nextInt(4)) {
                case 0:
                    same("got " + end + " " + i, () -> wire.got(end, i), () -> model.got(end, i));
                    break;
                case 1:
                    same("session " + end + " " + i, () -> wire.session(end, i), () -> model.session(end, i));
                    break;
                case 2:
                    same("packet " + end + " " + k + " " + i,
                            () -> wire.packet(end, k, i), () -> model.packet(end, k, i));
                    break;
                default:
                    same("about " + end + " " + what, () -> wire.about(end, what), () -> model.about(end, what));
                    break;
            }
        }
    }

    private void lookAtAll() {
        for (int end = 0; end < 2; end++) {
            int who = end;
            for (int what = 0; what < 9; what++) {
                int which = what;
                same("about " + who + " " + which, () -> wire.about(who, which), () -> model.about(who, which));
            }
            same("session " + who, () -> wire.session(who, 31), () -> model.session(who, 31));
        }
        Kit.same(name + "is one of at most 512", calls <= 512, true);
    }

    private void both(String what, Kit.Call mine, Kit.Call due) {
        same(what, () -> done(mine), () -> done(due));
    }

    private static long done(Kit.Call call) {
        call.make();
        return 0;
    }

    private void same(String what, Ask mine, Ask due) {
        calls++;
        Kit.same(name + calls + " " + what, answer(mine), answer(due));
    }

    private static String answer(Ask question) {
        try {
            return String.valueOf(question.ask());
        } catch (RuntimeException e) {
            return "throws." + e.getClass().getSimpleName();
        }
    }
}
