import java.util.Arrays;

/** What the tests share: checks that count what is wrong, and short ways to use a wire. */
final class Kit {
    interface Call {
        void make();
    }

    interface Question {
        int ask(int i);
    }

    static final String NONE = "nothing";
    static final String NO_SUCH = "NoSuchElementException";
    static final String STATE = "IllegalStateException";
    static final String ARGUMENT = "IllegalArgumentException";
    static final String INDEX = "IndexOutOfBoundsException";

    private static int checks = 0;
    private static int wrong = 0;
    private static String sentence = "";

    private Kit() {
    }

    /** Whatever is wrong from here on is told with these words of the document. */
    static void sentence(String words) {
        sentence = "\"" + words + "\"\n    ";
    }

    static void same(String what, long got, long want) {
        report(what, String.valueOf(got), String.valueOf(want));
    }

    static void same(String what, boolean got, boolean want) {
        report(what, String.valueOf(got), String.valueOf(want));
    }

    static void same(String what, String got, String want) {
        report(what, got, want);
    }

    static void same(String what, byte[] got, byte[] want) {
        report(what, Arrays.toString(got), Arrays.toString(want));
    }

    private static void report(String what, String got, String want) {
        checks++;
        if (!got.equals(want)) {
            wrong++;
            System.out.println(sentence + what + ": got " + got + ", due is " + want);
        }
    }

    /** The name of what a call throws. */
    static String answer(Call call) {
        try {
            call.make();
        } catch (RuntimeException e) {
            return e.getClass().getSimpleName();
        }
        return NONE;
    }

    static void thrown(String what, Call call, String want) {
        report(what + " throws", answer(call), want);
    }

    static void finish() {
        System.out.println(checks + " checks, " + wrong + " wrong");
        if (wrong != 0 || checks == 0) {
            System.exit(1);
        }
    }

    static byte[] bytes(int... values) {
        byte[] row = new byte[values.length];
        for (int i = 0; i < row.length; i++) {
            row[i] = (byte) values[i];
        }
        return row;
    }

    /** count bytes that begin with first and grow by one. */
    static byte[] rising(int first, int count) {
        byte[] row = new byte[count];
        for (int i = 0; i < count; i++) {
            row[i] = (byte) (first + i);
        }
        return row;
    }

    static byte[] hex(String text) {
        byte[] row = new byte[text.length() / 2];
        for (int i = 0; i < row.length; i++) {
            row[i] = (byte) Integer.parseInt(text.substring(2 * i, 2 * i + 2), 16);
        }
        return row;
    }

    static byte[] join(byte[]... parts) {
        int length = 0;
        for (byte[] part : parts) {
            length += part.length;
        }
        byte[] all = new byte[length];
        int at = 0;
        for (byte[] part : parts) {
            System.arraycopy(part, 0, all, at, part.length);
            at += part.length;
        }
        return all;
    }

    static void type(SealedWire wire, byte[] row) {
        for (int at = 0; at < row.length; at += 8) {
            int n = Math.min(8, row.length - at);
            long w = 0;
            for (int i = 0; i < n; i++) {
                w |= (row[at + i] & 255L) << (8 * i);
            }
            if (!wire.type(w, n)) {
                throw new AssertionError("the tape is full");
            }
        }
    }

    static void set(SealedWire wire, int what, byte[] row) {
        type(wire, row);
        wire.set(what);
    }

    static void send(SealedWire wire, int end, byte[] payload) {
        type(wire, payload);
        wire.send(end);
    }

    static byte[] read(int count, Question question) {
        byte[] row = new byte[count];
        for (int i = 0; i < count; i++) {
            row[i] = (byte) question.ask(i);
        }
        return row;
    }

    static byte[] out(SealedWire wire, int count) {
        return read(count, wire::out);
    }

    static byte[] packet(SealedWire wire, int end, int k) {
        return read(wire.packet(end, k, -1), i -> wire.packet(end, k, i));
    }

    static byte[] got(SealedWire wire, int end) {
        return read(wire.about(end, 3), i -> wire.got(end, i));
    }

    static byte[] session(SealedWire wire, int end) {
        return read(32, i -> wire.session(end, i));
    }

    /** All that about tells of an end, in one line. */
    static String about(SealedWire wire, int end) {
        StringBuilder all = new StringBuilder();
        for (int what = 0; what < 9; what++) {
            all.append(what == 0 ? "" : " ").append(wire.about(end, what));
        }
        return all.toString();
    }
}
