import java.io.ByteArrayOutputStream;
import java.util.ArrayList;
import java.util.Arrays;
import java.util.List;
import java.util.NoSuchElementException;

/** The document's ends, packets and exchanges a second time, plainly, with the Java library. */
final class Model {
    private static final class Side {
        final int number;
        final List<byte[]> toIt = new ArrayList<>();
        final ByteArrayOutputStream got = new ByteArrayOutputStream();
        boolean lives = true;
        int sent;
        int came;
        int over;
        int unknown = -1;
        boolean sentInit;
        boolean gotInit;
        boolean request;
        boolean reply;
        boolean sentNew;
        byte[] init;
        byte[] otherInit;
        byte[] secret = new byte[32];
        byte[] taken;
        byte[] otherRow;
        byte[] cookie = new byte[8];
        byte[] session;
        byte[][] sendKeys;
        byte[][] comeKeys;
        byte[][] nextKeys;

        Side(int number) {
            this.number = number;
        }
    }

    private final Side[] sides = {new Side(0), new Side(1)};
    private byte[] hostSecret = new byte[32];
    private byte[] trusted = new byte[32];

    void set(int what, byte[] row) {
        if (what < 0 || what > 5) {
            throw new IndexOutOfBoundsException();
        }
        if (row.length != (what < 4 ? 32 : 8)) {
            throw new IllegalArgumentException();
        }
        if (what < 2) {
            sides[what].secret = row;
        } else if (what == 2) {
            hostSecret = row;
        } else if (what == 3) {
            trusted = row;
        } else {
            sides[what - 4].cookie = row;
        }
    }

    void begin(int end) {
        Side a = side(end);
        if (!a.lives || a.sentInit) {
            throw new IllegalStateException();
        }
        sendInit(a);
    }

    void send(int end, byte[] payload) {
        Side a = side(end);
        if (payload.length < 1 || payload.length > 200) {
            throw new IllegalArgumentException();
        }
        int first = payload[0] & 255;
        if (!a.lives || first == 20 || first == 21 || first == 30 || first == 31
                || a.sentInit && !a.sentNew && (first < 1 || first > 3)) {
            throw new IllegalStateException();
        }
        put(a, payload);
        if (first == 1) {
            a.lives = false;
        }
    }

    int come(int end) {
        Side a = side(end);
        if (a.toIt.isEmpty()) {
            return -1;
        }
        byte[] packet = a.toIt.remove(0);
        if (!a.lives) {
            return -4;
        }
        int sequence = a.came++;
        byte[] payload = opened(packet, a.comeKeys, sequence);
        if (payload == null) {
            end(a);
            return -2;
        }
        int first = payload[0] & 255;
        if (!inPlace(a, first, payload.length)) {
            end(a);
            return -3;
        }
        obey(a, first, payload, sequence);
        return first;
    }

    int run(int n) {
        if (n < 0 || n > 50) {
            throw new IllegalArgumentException();
        }
        int count = 0;
        int turn = 1;
        while (count < n && !(sides[0].toIt.isEmpty() && sides[1].toIt.isEmpty())) {
            if (!sides[turn].toIt.isEmpty()) {
                come(turn);
                count++;
            }
            turn = 1 - turn;
        }
        return count;
    }

    int packet(int end, int k, int i) {
        byte[] packet = found(end, k);
        if (i < -1 || i >= packet.length) {
            throw new IndexOutOfBoundsException();
        }
        return i == -1 ? packet.length : packet[i] & 255;
    }

    void damage(int end, int k, int i, int x) {
        byte[] packet = found(end, k);
        if (i < 0 || i >= packet.length) {
            throw new IndexOutOfBoundsException();
        }
        if (x < 0 || x > 255) {
            throw new IllegalArgumentException();
        }
        packet[i] ^= (byte) x;
    }

    int got(int end, int i) {
        byte[] all = side(end).got.toByteArray();
        if (i < 0 || i >= all.length) {
            throw new IndexOutOfBoundsException();
        }
        return all[i] & 255;
    }

    int about(int end, int what) {
        Side a = side(end);
        int[] all = {
            a.lives ? 1 : 0, a.sent, a.came, a.got.size(), a.over, a.toIt.size(),
            a.sentInit ? 1 : 0, a.gotInit ? 1 : 0, a.unknown,
        };
        if (what < 0 || what >= all.length) {
            throw new IndexOutOfBoundsException();
        }
        return all[what];
    }

    int session(int end, int i) {
        Side a = side(end);
        if (i < 0 || i > 31) {
            throw new IndexOutOfBoundsException();
        }
        if (a.session == null) {
            throw new IllegalStateException();
        }
        return a.session[i] & 255;
    }

    private Side side(int end) {
        if (end != 0 && end != 1) {
            throw new NoSuchElementException();
        }
        return sides[end];
    }

    private byte[] found(int end, int k) {
        List<byte[]> packets = side(end).toIt;
        if (k < 0 || k >= packets.size()) {
            throw new NoSuchElementException();
        }
        return packets.get(k);
    }

    private void put(Side a, byte[] payload) {
        List<byte[]> packets = sides[1 - a.number].toIt;
        if (!a.lives) {
            return;
        }
        if (packets.size() == 12) {
            a.lives = false;
            return;
        }
        packets.add(a.sendKeys == null ? Oracle.plain(payload) : Oracle.hidden(payload, a.sendKeys, a.sent));
        a.sent++;
    }

    private void end(Side a) {
        put(a, Kit.bytes(1));
        a.lives = false;
    }

    private void sendInit(Side a) {
        a.sentInit = true;
        a.init = Kit.join(Kit.bytes(20), a.cookie);
        put(a, a.init);
    }

    /** Null for a broken one: what it would have to be is made anew from what is in it, and compared. */
    private static byte[] opened(byte[] packet, byte[][] keys, int sequence) {
        int end = packet.length - (keys == null ? 0 : 16);
        if (end < 5) {
            return null;
        }
        byte[] row = Arrays.copyOf(packet, end);
        if (keys != null) {
            row = Oracle.xor(row, keys, sequence);
        }
        int size = end - 5 - (row[4] & 255);
        if (size < 1 || size > 200) {
            return null;
        }
        byte[] payload = Arrays.copyOfRange(row, 5, 5 + size);
        byte[] due = keys == null ? Oracle.plain(payload) : Oracle.hidden(payload, keys, sequence);
        return Arrays.equals(packet, due) ? payload : null;
    }

    private static boolean inPlace(Side a, int first, int size) {
        boolean server = a.number == 1;
        if (first == 20) {
            return size == 9 && !a.gotInit;
        } else if (first == 21) {
            return size == 1 && a.sentNew;
        } else if (first == 30) {
            return size == 33 && server && a.gotInit && a.sentInit && !a.request;
        } else if (first == 31) {
            return size == 97 && !server && a.request && !a.reply;
        }
        return first != 94 || !a.gotInit && a.got.size() + size - 1 <= 2000;
    }

    private void obey(Side a, int first, byte[] payload, int sequence) {
        if (first == 1) {
            a.lives = false;
        } else if (first == 3) {
            a.unknown = payload.length == 5 ? java.nio.ByteBuffer.wrap(payload, 1, 4).getInt() : -1;
        } else if (first == 20) {
            a.gotInit = true;
            a.otherInit = payload;
            if (!a.sentInit) {
                sendInit(a);
            }
            if (a.number == 0) {
                a.taken = a.secret;
                a.request = true;
                put(a, Kit.join(Kit.bytes(30), Oracle.publicRow(a.taken)));
            }
        } else if (first == 21) {
            a.comeKeys = a.nextKeys;
            a.over++;
            a.sentInit = a.gotInit = a.request = a.reply = a.sentNew = false;
        } else if (first == 30) {
            reply(a, Arrays.copyOfRange(payload, 1, 33));
        } else if (first == 31) {
            judge(a, payload);
        } else if (first == 94) {
            a.got.write(payload, 1, payload.length - 1);
        } else if (first != 2) {
            put(a, Kit.bytes(3, sequence >> 24, sequence >> 16, sequence >> 8, sequence));
        }
    }

    private void reply(Side a, byte[] clientRow) {
        a.request = true;
        a.taken = a.secret;
        byte[] host = Oracle.publicRow(hostSecret);
        byte[] own = Oracle.publicRow(a.taken);
        byte[] shared = Oracle.multiply(a.taken, clientRow);
        byte[] h = Oracle.hash(Kit.join(a.otherInit, a.init, host, clientRow, own, shared));
        byte[] proof = Oracle.hash(Kit.join(Oracle.multiply(hostSecret, clientRow), h));
        put(a, Kit.join(Kit.bytes(31), host, own, proof));
        renew(a, shared, h);
    }

    private void judge(Side a, byte[] payload) {
        a.reply = true;
        byte[] host = Arrays.copyOfRange(payload, 1, 33);
        byte[] serverRow = Arrays.copyOfRange(payload, 33, 65);
        byte[] shared = Oracle.multiply(a.taken, serverRow);
        byte[] h = Oracle.hash(
                Kit.join(a.init, a.otherInit, host, Oracle.publicRow(a.taken), serverRow, shared));
        byte[] proof = Oracle.hash(Kit.join(Oracle.multiply(a.taken, host), h));
        boolean right = Arrays.equals(proof, Arrays.copyOfRange(payload, 65, 97));
        if (right && a.session == null) {
            a.session = h;
        }
        if (right && Arrays.equals(host, trusted)) {
            renew(a, shared, h);
        } else {
            end(a);
        }
    }

    private void renew(Side a, byte[] shared, byte[] h) {
        put(a, Kit.bytes(21));
        a.sentNew = true;
        if (a.session == null) {
            a.session = h;
        }
        byte[][] keys = new byte[4][];
        for (int i = 0; i < 4; i++) {
            keys[i] = Oracle.hash(Kit.join(shared, h, Kit.bytes(65 + i), a.session));
        }
        a.sendKeys = Arrays.copyOfRange(keys, 2 * a.number, 2 * a.number + 2);
        a.nextKeys = Arrays.copyOfRange(keys, 2 - 2 * a.number, 4 - 2 * a.number);
    }
}
