import java.util.Arrays;
import java.util.NoSuchElementException;

/**
 * A sealed wire between a client and a server: both agree on keys by multiplying points of a curve,
 * the server proves that it has the host's secret, packets are hidden by a stream and sealed by a tag,
 * keys are made anew whenever one asks for it; whoever meets a packet that is not as it should be ends.
 *
 * <p>Every row is made with the object and used again: no call makes an object, but for its exceptions.
 */
public final class SealedWire {
    private static final int CLIENT = 0;
    private static final int SERVER = 1;

    private static final int TAPE_LIMIT = 600;
    private static final int PAYLOAD_LIMIT = 200;
    private static final int GOT_LIMIT = 2000;
    private static final int WIRE_LIMIT = 12;
    private static final int RUN_LIMIT = 50;

    /** Bytes of a secret, a public row, a key and a hash. */
    private static final int ROW = 32;
    private static final int COOKIE = 8;
    private static final int BLOCK = 64;
    private static final int TAG = 16;
    /** Four bytes of the size, one of the padding: what stands before the payload. */
    private static final int HEADER = 5;
    /** A payload of 200 bytes with keys: 4 + 208 + 16; without keys none is longer. */
    private static final int PACKET_LIMIT = 228;

    private static final int END = 1;
    private static final int IGNORE = 2;
    private static final int UNKNOWN = 3;
    private static final int INIT = 20;
    private static final int NEW = 21;
    private static final int REQUEST = 30;
    private static final int REPLY = 31;
    private static final int DATA = 94;

    private static final int INIT_SIZE = 1 + COOKIE;
    private static final int REQUEST_SIZE = 1 + ROW;
    private static final int REPLY_SIZE = 1 + 3 * ROW;
    private static final int UNKNOWN_SIZE = 5;

    private static final int NO_PACKET = -1;
    private static final int BROKEN = -2;
    private static final int MISPLACED = -3;
    private static final int GONE = -4;

    private Row tape = new Row(TAPE_LIMIT);
    private Row spareTape = new Row(TAPE_LIMIT);
    private final Row output = new Row(BLOCK);

    private final int[] first = new int[ROW];
    private final int[] second = new int[ROW];
    private final int[] block = new int[BLOCK];
    private final int[] seal = new int[TAG];

    private final Curve curve = new Curve();
    private final Digest digest = new Digest();
    private final Cipher cipher = new Cipher();
    private final Sealer sealer = new Sealer();
    private final Talk talk = new Talk();

    public SealedWire() {
    }

    public boolean type(long w, int n) {
        if (n < 1 || n > 8 || tape.length + n > TAPE_LIMIT) {
            return false;
        }
        for (int i = 0; i < n; i++) {
            tape.add((int) (w >>> (8 * i)));
        }
        return true;
    }

    public void set(int what) throws IndexOutOfBoundsException, IllegalArgumentException {
        Row taken = takeTape();
        if (what < 0 || what > 5) {
            throw new IndexOutOfBoundsException();
        }
        int[] target = talk.setting(what);
        if (taken.length != target.length) {
            throw new IllegalArgumentException();
        }
        taken.copyTo(0, target);
    }

    public void multiply() throws IllegalArgumentException {
        Row taken = takeTape();
        if (taken.length != 2 * ROW) {
            throw new IllegalArgumentException();
        }
        taken.copyTo(0, first);
        taken.copyTo(ROW, second);
        curve.times(first, second, first);
        output.become(first);
    }

    public void hash() {
        digest.of(takeTape(), first);
        output.become(first);
    }

    public void stream(long nonce, int counter) throws IllegalArgumentException {
        Row taken = takeTape();
        if (taken.length != ROW || nonce < 0 || counter < 0) {
            throw new IllegalArgumentException();
        }
        taken.copyTo(0, first);
        cipher.fill(first, nonce, counter, block);
        output.become(block);
    }

    public void tag() throws IllegalArgumentException {
        Row taken = takeTape();
        if (taken.length < ROW) {
            throw new IllegalArgumentException();
        }
        taken.copyTo(0, first);
        sealer.takeKey(first);
        sealer.over(taken, ROW, seal);
        output.become(seal);
    }

    public int out(int i) throws IndexOutOfBoundsException {
        return byteOf(output, i);
    }

    public void begin(int end) throws NoSuchElementException, IllegalStateException {
        End who = endAt(end);
        if (!who.lives || who.exchange.sentInit) {
            throw new IllegalStateException();
        }
        talk.sendInit(who);
    }

    public void send(int end) throws NoSuchElementException, IllegalArgumentException, IllegalStateException {
        Row payload = takeTape();
        End who = endAt(end);
        if (payload.length < 1 || payload.length > PAYLOAD_LIMIT) {
            throw new IllegalArgumentException();
        }
        int message = payload.bytes[0];
        if (!who.lives || !who.maySend(message)) {
            throw new IllegalStateException();
        }
        talk.transmit(who, payload);
        if (message == END) {
            who.lives = false;
        }
    }

    public int come(int end) throws NoSuchElementException {
        End who = endAt(end);
        int kind = talk.accept(who);
        talk.answer(who, kind);
        return kind;
    }

    public int run(int n) throws IllegalArgumentException {
        if (n < 0 || n > RUN_LIMIT) {
            throw new IllegalArgumentException();
        }
        int count = 0;
        // Two turns a packet are enough, as one of the two ends has a packet as long as it goes on.
        for (int turn = 0; turn < 2 * n && count < n; turn++) {
            End who = turn % 2 == 0 ? talk.server : talk.client;
            int kind = talk.accept(who);
            talk.answer(who, kind);
            if (kind != NO_PACKET) {
                count++;
            }
        }
        return count;
    }

    public int packet(int end, int k, int i) throws NoSuchElementException, IndexOutOfBoundsException {
        Row found = packetAt(end, k);
        return i == -1 ? found.length : byteOf(found, i);
    }

    public void damage(int end, int k, int i, int x)
            throws NoSuchElementException, IndexOutOfBoundsException, IllegalArgumentException {
        Row found = packetAt(end, k);
        int old = byteOf(found, i);
        if (x < 0 || x > 255) {
            throw new IllegalArgumentException();
        }
        found.bytes[i] = old ^ x;
    }

    public int got(int end, int i) throws NoSuchElementException, IndexOutOfBoundsException {
        return byteOf(endAt(end).received, i);
    }

    public int about(int end, int what) throws NoSuchElementException, IndexOutOfBoundsException {
        End who = endAt(end);
        switch (what) {
            case 0: return who.lives ? 1 : 0;
            case 1: return who.sent;
            case 2: return who.came;
            case 3: return who.received.length;
            case 4: return who.exchangesOver;
            case 5: return who.waiting;
            case 6: return who.exchange.sentInit ? 1 : 0;
            case 7: return who.exchange.gotInit ? 1 : 0;
            case 8: return who.lastUnknown;
            default: throw new IndexOutOfBoundsException();
        }
    }

    public int session(int end, int i)
            throws NoSuchElementException, IndexOutOfBoundsException, IllegalStateException {
        End who = endAt(end);
        if (i < 0 || i >= ROW) {
            throw new IndexOutOfBoundsException();
        }
        if (!who.hasSession) {
            throw new IllegalStateException();
        }
        return who.session[i];
    }

    /** The tape is empty afterwards; what was on it stays in the answered row until the next one is taken. */
    private Row takeTape() {
        Row taken = tape;
        tape = spareTape;
        spareTape = taken;
        tape.empty();
        return taken;
    }

    private End endAt(int number) {
        if (number != CLIENT && number != SERVER) {
            throw new NoSuchElementException();
        }
        return number == CLIENT ? talk.client : talk.server;
    }

    private Row packetAt(int end, int k) {
        End who = endAt(end);
        if (k < 0 || k >= who.waiting) {
            throw new NoSuchElementException();
        }
        return who.waitingAt(k);
    }

    private static int byteOf(Row row, int i) {
        if (i < 0 || i >= row.length) {
            throw new IndexOutOfBoundsException();
        }
        return row.bytes[i];
    }

    /** Bytes, one behind the other, up to a limit; the rows of one size alone are plain arrays. */
    private static final class Row {
        final int[] bytes;
        int length;

        Row(int limit) {
            bytes = new int[limit];
        }

        void empty() {
            length = 0;
        }

        void add(int value) {
            if (length < bytes.length) {
                bytes[length] = value & 255;
                length++;
            }
        }

        void addAll(int[] more) {
            int count = Math.min(more.length, bytes.length - length);
            System.arraycopy(more, 0, bytes, length, count);
            length += count;
        }

        void addFrom(Row other, int from) {
            int count = Math.min(other.length - from, bytes.length - length);
            if (from >= 0 && count > 0) {
                System.arraycopy(other.bytes, from, bytes, length, count);
                length += count;
            }
        }

        void addBig(int number) {
            for (int shift = 24; shift >= 0; shift -= 8) {
                add(number >>> shift);
            }
        }

        int bigAt(int from) {
            int number = 0;
            for (int i = from; i < from + 4; i++) {
                number = (number << 8) | (i < length ? bytes[i] : 0);
            }
            return number;
        }

        void become(int[] all) {
            empty();
            addAll(all);
        }

        /** Leaves the target alone where there are not enough bytes to fill it. */
        void copyTo(int from, int[] target) {
            if (from >= 0 && from + target.length <= length) {
                System.arraycopy(bytes, from, target, 0, target.length);
            }
        }

        void shorten(int newLength) {
            length = Math.max(0, Math.min(newLength, length));
        }

        static void copy(int[] source, int[] target) {
            System.arraycopy(source, 0, target, 0, Math.min(source.length, target.length));
        }

        static boolean same(int[] one, int[] other) {
            if (one.length != other.length) {
                return false;
            }
            for (int i = 0; i < one.length; i++) {
                if (one[i] != other[i]) {
                    return false;
                }
            }
            return true;
        }
    }

    /**
     * Numbers modulo 2^bits - fold, in limbs of 26 bits, the lowest first. Between two calls a limb may be
     * somewhat above 26 bits or below 0: sums and differences of two results are good factors, as then no
     * column of a product comes near 63 bits.
     */
    private static final class Field {
        private static final int LIMB = 26;
        private static final long MASK = (1L << LIMB) - 1;

        private final int limbs;
        private final int topBits;
        private final long fold;
        private final long wideFold;
        private final long[] wide;

        Field(int bits, int fold) {
            limbs = (bits + LIMB - 1) / LIMB;
            topBits = bits - LIMB * (limbs - 1);
            this.fold = fold;
            // A whole row of limbs may reach beyond 2^bits: what goes beyond the row weighs that much more.
            wideFold = (long) fold << (LIMB - topBits);
            wide = new long[2 * limbs];
        }

        long[] zero() {
            return new long[limbs];
        }

        void addByte(long[] x, int i, int value) {
            int limb = 8 * i / LIMB;
            int shift = 8 * i % LIMB;
            x[limb] += ((long) value << shift) & MASK;
            if (shift > LIMB - 8 && limb + 1 < limbs) {
                x[limb + 1] += value >> (LIMB - shift);
            }
        }

        /** Good only for a number that has been reduced. */
        int byteAt(long[] x, int i) {
            int limb = 8 * i / LIMB;
            int shift = 8 * i % LIMB;
            long value = x[limb] >> shift;
            if (shift > LIMB - 8 && limb + 1 < limbs) {
                value |= x[limb + 1] << (LIMB - shift);
            }
            return (int) value & 255;
        }

        void add(long[] sum, long[] x, long[] y) {
            for (int i = 0; i < limbs; i++) {
                sum[i] = x[i] + y[i];
            }
        }

        void subtract(long[] difference, long[] x, long[] y) {
            for (int i = 0; i < limbs; i++) {
                difference[i] = x[i] - y[i];
            }
        }

        void scale(long[] product, long[] x, int factor) {
            long carried = 0;
            for (int i = 0; i < limbs; i++) {
                carried += x[i] * factor;
                product[i] = carried & MASK;
                carried >>= LIMB;
            }
            product[0] += wideFold * carried;
        }

        /** The product may be one of the factors. */
        void times(long[] product, long[] x, long[] y) {
            for (int i = 0; i < wide.length; i++) {
                wide[i] = 0;
            }
            for (int i = 0; i < limbs; i++) {
                long factor = x[i];
                for (int j = 0; j < limbs; j++) {
                    wide[i + j] += factor * y[j];
                }
            }
            for (int i = 0; i < wide.length - 1; i++) {
                wide[i + 1] += wide[i] >> LIMB;
                wide[i] &= MASK;
            }
            long carried = 0;
            for (int i = 0; i < limbs; i++) {
                carried += wide[i] + wideFold * wide[i + limbs];
                product[i] = carried & MASK;
                carried >>= LIMB;
            }
            product[0] += wideFold * carried;
        }

        /** Brings x to the one form that is at least 0 and below the modulus. */
        void reduce(long[] x) {
            int last = limbs - 1;
            long topMask = (1L << topBits) - 1;
            // After the first pass x is less than a few thousand beyond the bounds 0 and 2^bits.
            for (int pass = 0; pass < 2; pass++) {
                long carried = 0;
                for (int i = 0; i < last; i++) {
                    carried += x[i];
                    x[i] = carried & MASK;
                    carried >>= LIMB;
                }
                carried += x[last];
                x[last] = carried & topMask;
                x[0] += fold * (carried >> topBits);
            }
            boolean full = x[0] > MASK - fold && x[last] == topMask;
            for (int i = 1; i < last; i++) {
                full = full && x[i] == MASK;
            }
            if (full) {
                // Between the modulus and 2^bits all limbs but the lowest are those of the modulus.
                x[0] -= MASK + 1 - fold;
                for (int i = 1; i < limbs; i++) {
                    x[i] = 0;
                }
            }
        }
    }

    /** MULTIPLY. */
    private static final class Curve {
        private static final int[] NINE = {
            9, 0, 0, 0, 0, 0, 0, 0, 0, 0, 0, 0, 0, 0, 0, 0, 0, 0, 0, 0, 0, 0, 0, 0, 0, 0, 0, 0, 0, 0, 0, 0,
        };

        private final Field field = new Field(255, 19);
        private final int[] scalar = new int[ROW];
        private final long[] u = field.zero();
        private final long[] x2 = field.zero();
        private final long[] z2 = field.zero();
        private final long[] x3 = field.zero();
        private final long[] z3 = field.zero();
        private final long[] a = field.zero();
        private final long[] b = field.zero();
        private final long[] c = field.zero();
        private final long[] d = field.zero();
        private final long[] e = field.zero();

        void publicRow(int[] secret, int[] result) {
            times(secret, NINE, result);
        }

        /** The result may be one of the factors. */
        void times(int[] k, int[] point, int[] result) {
            takeScalar(k);
            takePoint(point);
            for (int bit = 254; bit >= 0; bit--) {
                // To change places before and after a step is to step with the places changed.
                if ((scalar[bit >> 3] >> (bit & 7) & 1) == 1) {
                    step(x3, z3, x2, z2);
                } else {
                    step(x2, z2, x3, z3);
                }
            }
            invert(z2, a);
            field.times(x2, x2, a);
            field.reduce(x2);
            for (int i = 0; i < ROW; i++) {
                result[i] = field.byteAt(x2, i);
            }
        }

        private void takeScalar(int[] k) {
            Row.copy(k, scalar);
            scalar[0] &= 248;
            scalar[31] = (scalar[31] & 127) | 64;
        }

        private void takePoint(int[] point) {
            Arrays.fill(u, 0);
            for (int i = 0; i < ROW; i++) {
                field.addByte(u, i, i == ROW - 1 ? point[i] & 127 : point[i]);
            }
            Arrays.fill(x2, 0);
            Arrays.fill(z2, 0);
            Arrays.fill(z3, 0);
            x2[0] = 1;
            z3[0] = 1;
            System.arraycopy(u, 0, x3, 0, u.length);
        }

        /** Doubles the point xd : zd, and adds it to the point xs : zs. */
        private void step(long[] xd, long[] zd, long[] xs, long[] zs) {
            field.add(a, xd, zd);
            field.subtract(b, xd, zd);
            field.add(c, xs, zs);
            field.subtract(d, xs, zs);
            field.times(d, d, a);
            field.times(c, c, b);
            field.add(xs, d, c);
            field.times(xs, xs, xs);
            field.subtract(zs, d, c);
            field.times(zs, zs, zs);
            field.times(zs, zs, u);
            field.times(a, a, a);
            field.times(b, b, b);
            field.times(xd, a, b);
            field.subtract(e, a, b);
            field.scale(zd, e, 121665);
            field.add(zd, zd, a);
            field.times(zd, zd, e);
        }

        /** x^(P - 2): of the bits 254 to 0 of P - 2 only 2 and 4 are 0. */
        private void invert(long[] x, long[] result) {
            System.arraycopy(x, 0, result, 0, x.length);
            for (int bit = 253; bit >= 0; bit--) {
                field.times(result, result, result);
                if (bit != 2 && bit != 4) {
                    field.times(result, result, x);
                }
            }
        }
    }

    /** THE HASH. */
    private static final class Digest {
        private static final int[] SQUARE_ROOTS = {
            0x6a09e667, 0xbb67ae85, 0x3c6ef372, 0xa54ff53a, 0x510e527f, 0x9b05688c, 0x1f83d9ab, 0x5be0cd19,
        };
        private static final int[] CUBE_ROOTS = {
            0x428a2f98, 0x71374491, 0xb5c0fbcf, 0xe9b5dba5, 0x3956c25b, 0x59f111f1, 0x923f82a4, 0xab1c5ed5,
            0xd807aa98, 0x12835b01, 0x243185be, 0x550c7dc3, 0x72be5d74, 0x80deb1fe, 0x9bdc06a7, 0xc19bf174,
            0xe49b69c1, 0xefbe4786, 0x0fc19dc6, 0x240ca1cc, 0x2de92c6f, 0x4a7484aa, 0x5cb0a9dc, 0x76f988da,
            0x983e5152, 0xa831c66d, 0xb00327c8, 0xbf597fc7, 0xc6e00bf3, 0xd5a79147, 0x06ca6351, 0x14292967,
            0x27b70a85, 0x2e1b2138, 0x4d2c6dfc, 0x53380d13, 0x650a7354, 0x766a0abb, 0x81c2c92e, 0x92722c85,
            0xa2bfe8a1, 0xa81a664b, 0xc24b8b70, 0xc76c51a3, 0xd192e819, 0xd6990624, 0xf40e3585, 0x106aa070,
            0x19a4c116, 0x1e376c08, 0x2748774c, 0x34b0bcb5, 0x391c0cb3, 0x4ed8aa4a, 0x5b9cca4f, 0x682e6ff3,
            0x748f82ee, 0x78a5636f, 0x84c87814, 0x8cc70208, 0x90befffa, 0xa4506ceb, 0xbef9a3f7, 0xc67178f2,
        };

        private final int[] state = new int[8];
        private final int[] words = new int[64];

        void of(Row row, int[] result) {
            Row.copy(SQUARE_ROOTS, state);
            // One byte 128 and eight of the size come behind the row.
            int total = (row.length + 9 + BLOCK - 1) / BLOCK * BLOCK;
            for (int from = 0; from < total; from += BLOCK) {
                takeWords(row, from, total);
                compress();
            }
            for (int i = 0; i < ROW; i++) {
                result[i] = state[i >> 2] >>> (24 - 8 * (i & 3)) & 255;
            }
        }

        private void takeWords(Row row, int from, int total) {
            for (int t = 0; t < 16; t++) {
                int word = 0;
                for (int i = from + 4 * t; i < from + 4 * t + 4; i++) {
                    word = (word << 8) | padded(row, i, total);
                }
                words[t] = word;
            }
            for (int t = 16; t < 64; t++) {
                int far = words[t - 15];
                int near = words[t - 2];
                int s0 = Integer.rotateRight(far, 7) ^ Integer.rotateRight(far, 18) ^ (far >>> 3);
                int s1 = Integer.rotateRight(near, 17) ^ Integer.rotateRight(near, 19) ^ (near >>> 10);
                words[t] = words[t - 16] + s0 + words[t - 7] + s1;
            }
        }

        private static int padded(Row row, int i, int total) {
            if (i < row.length) {
                return row.bytes[i];
            }
            if (i == row.length) {
                return 128;
            }
            // The upper four bytes of the size are 0 for every row that there can be.
            return i < total - 4 ? 0 : 8 * row.length >>> (8 * (total - 1 - i)) & 255;
        }

        private void compress() {
            int a = state[0];
            int b = state[1];
            int c = state[2];
            int d = state[3];
            int e = state[4];
            int f = state[5];
            int g = state[6];
            int h = state[7];
            for (int t = 0; t < 64; t++) {
                int s1 = Integer.rotateRight(e, 6) ^ Integer.rotateRight(e, 11) ^ Integer.rotateRight(e, 25);
                int t1 = h + s1 + ((e & f) ^ (~e & g)) + CUBE_ROOTS[t] + words[t];
                int s0 = Integer.rotateRight(a, 2) ^ Integer.rotateRight(a, 13) ^ Integer.rotateRight(a, 22);
                int t2 = s0 + ((a & b) ^ (a & c) ^ (b & c));
                h = g;
                g = f;
                f = e;
                e = d + t1;
                d = c;
                c = b;
                b = a;
                a = t1 + t2;
            }
            state[0] += a;
            state[1] += b;
            state[2] += c;
            state[3] += d;
            state[4] += e;
            state[5] += f;
            state[6] += g;
            state[7] += h;
        }
    }

    /** THE STREAM. */
    private static final class Cipher {
        private static final int[] QUARTERS = {
            0, 4, 8, 12, 1, 5, 9, 13, 2, 6, 10, 14, 3, 7, 11, 15,
            0, 5, 10, 15, 1, 6, 11, 12, 2, 7, 8, 13, 3, 4, 9, 14,
        };

        private final int[] start = new int[16];
        private final int[] words = new int[16];

        void fill(int[] key, long nonce, int counter, int[] block) {
            takeKey(key);
            start[12] = counter;
            start[13] = 0;
            start[14] = Integer.reverseBytes((int) (nonce >>> 32));
            start[15] = Integer.reverseBytes((int) nonce);
            System.arraycopy(start, 0, words, 0, start.length);
            for (int round = 0; round < 10; round++) {
                for (int q = 0; q < QUARTERS.length; q += 4) {
                    quarter(QUARTERS[q], QUARTERS[q + 1], QUARTERS[q + 2], QUARTERS[q + 3]);
                }
            }
            for (int i = 0; i < BLOCK; i++) {
                int word = words[i >> 2] + start[i >> 2];
                block[i] = word >>> (8 * (i & 3)) & 255;
            }
        }

        private void takeKey(int[] key) {
            start[0] = 0x61707865;
            start[1] = 0x3320646e;
            start[2] = 0x79622d32;
            start[3] = 0x6b206574;
            for (int i = 0; i < 8; i++) {
                int at = 4 * i;
                start[4 + i] = key[at] | key[at + 1] << 8 | key[at + 2] << 16 | key[at + 3] << 24;
            }
        }

        private void quarter(int a, int b, int c, int d) {
            words[a] += words[b];
            int x = words[d] ^ words[a];
            words[d] = x << 16 | x >>> 16;
            words[c] += words[d];
            x = words[b] ^ words[c];
            words[b] = x << 12 | x >>> 20;
            words[a] += words[b];
            x = words[d] ^ words[a];
            words[d] = x << 8 | x >>> 24;
            words[c] += words[d];
            x = words[b] ^ words[c];
            words[b] = x << 7 | x >>> 25;
        }
    }

    /** THE TAG. */
    private static final class Sealer {
        private final Field field = new Field(130, 5);
        private final long[] r = field.zero();
        private final long[] q = field.zero();
        private final int[] s = new int[TAG];

        /** The first 32 bytes count. */
        void takeKey(int[] key) {
            Arrays.fill(r, 0);
            for (int i = 0; i < TAG; i++) {
                int kept = i % 4 == 3 ? 15 : i % 4 == 0 && i > 0 ? 252 : 255;
                field.addByte(r, i, key[i] & kept);
                s[i] = key[TAG + i];
            }
        }

        /** Of the row all counts that stands from 'from' on. */
        void over(Row row, int from, int[] result) {
            Arrays.fill(q, 0);
            for (int at = from; at < row.length; at += TAG) {
                int size = Math.min(TAG, row.length - at);
                for (int i = 0; i < size; i++) {
                    field.addByte(q, i, row.bytes[at + i]);
                }
                field.addByte(q, size, 1);
                field.times(q, q, r);
            }
            field.reduce(q);
            int sum = 0;
            for (int i = 0; i < TAG; i++) {
                sum += field.byteAt(q, i) + s[i];
                result[i] = sum & 255;
                sum >>= 8;
            }
        }
    }

    /** Two keys of one direction; without them packets go as they are. */
    private static final class Keys {
        final int[] head = new int[ROW];
        final int[] body = new int[ROW];
        boolean made;

        void become(Keys other) {
            Row.copy(other.head, head);
            Row.copy(other.body, body);
            made = other.made;
        }
    }

    /** Makes packets of payloads, and payloads of packets. */
    private static final class Envelope {
        private final Cipher cipher = new Cipher();
        private final Sealer sealer = new Sealer();
        private final int[] block = new int[BLOCK];
        private final int[] due = new int[TAG];
        private final int[] given = new int[TAG];
        private final Row opened = new Row(PACKET_LIMIT);

        void wrap(Row payload, Keys keys, int sequence, Row packet) {
            int padding = paddingFor(payload.length, keys.made);
            packet.empty();
            packet.addBig(1 + payload.length + padding);
            packet.add(padding);
            packet.addFrom(payload, 0);
            for (int i = 0; i < padding; i++) {
                packet.add(0);
            }
            if (keys.made) {
                cover(packet, keys, sequence);
                makeTag(packet, keys, sequence);
                packet.addAll(due);
            }
        }

        /** False for a packet that is broken. */
        boolean unwrap(Row packet, Keys keys, int sequence, Row payload) {
            opened.empty();
            opened.addFrom(packet, 0);
            if (keys.made && !uncover(keys, sequence)) {
                return false;
            }
            return read(keys.made, payload);
        }

        private boolean uncover(Keys keys, int sequence) {
            int size = opened.length - TAG;
            if (size < HEADER) {
                return false;
            }
            opened.copyTo(size, given);
            opened.shorten(size);
            makeTag(opened, keys, sequence);
            if (!Row.same(given, due)) {
                return false;
            }
            cover(opened, keys, sequence);
            return true;
        }

        private boolean read(boolean hidden, Row payload) {
            if (opened.length < HEADER || opened.bigAt(0) != opened.length - 4) {
                return false;
            }
            int padding = opened.bytes[HEADER - 1];
            int size = opened.length - HEADER - padding;
            if (size < 1 || size > PAYLOAD_LIMIT || padding != paddingFor(size, hidden)) {
                return false;
            }
            for (int i = HEADER + size; i < opened.length; i++) {
                if (opened.bytes[i] != 0) {
                    return false;
                }
            }
            opened.shorten(HEADER + size);
            payload.empty();
            payload.addFrom(opened, HEADER);
            return true;
        }

        private static int paddingFor(int size, boolean hidden) {
            int rest = (hidden ? size + 1 : size + HEADER) % 8;
            return rest <= 4 ? 8 - rest : 16 - rest;
        }

        /** XOR with the streams: to cover twice is to uncover. */
        private void cover(Row row, Keys keys, int sequence) {
            cipher.fill(keys.head, sequence, 0, block);
            for (int i = 0; i < 4 && i < row.length; i++) {
                row.bytes[i] ^= block[i];
            }
            int counter = 1;
            for (int from = 4; from < row.length; from += BLOCK) {
                cipher.fill(keys.body, sequence, counter, block);
                for (int i = from; i < from + BLOCK && i < row.length; i++) {
                    row.bytes[i] ^= block[i - from];
                }
                counter++;
            }
        }

        private void makeTag(Row row, Keys keys, int sequence) {
            cipher.fill(keys.body, sequence, 0, block);
            sealer.takeKey(block);
            sealer.over(row, 0, due);
        }
    }

    /** What an end knows of the exchange that it is in, until that is over. */
    private static final class Exchange {
        final int[] ownInit = new int[INIT_SIZE];
        final int[] otherInit = new int[INIT_SIZE];
        final int[] secret = new int[ROW];
        final int[] ownPublic = new int[ROW];
        final int[] otherPublic = new int[ROW];
        boolean sentInit;
        boolean gotInit;
        /** The client: sent; the server: got. */
        boolean hadRequest;
        boolean gotReply;
        boolean sentNew;

        void takeInit(Row payload) {
            payload.copyTo(0, otherInit);
            gotInit = true;
        }

        void forget() {
            sentInit = false;
            gotInit = false;
            hadRequest = false;
            gotReply = false;
            sentNew = false;
        }
    }

    /** One end, and the packets that are on the wire to it. */
    private static final class End {
        final boolean isClient;
        final Row[] packets = new Row[WIRE_LIMIT];
        int firstPacket;
        int waiting;

        final Exchange exchange = new Exchange();
        final Keys outgoing = new Keys();
        final Keys incoming = new Keys();
        final Keys nextIncoming = new Keys();
        final int[] secret = new int[ROW];
        final int[] cookie = new int[COOKIE];
        final int[] session = new int[ROW];
        boolean hasSession;

        final Row received = new Row(GOT_LIMIT);
        boolean lives = true;
        int sent;
        int came;
        int exchangesOver;
        int lastUnknown = -1;

        End(boolean isClient) {
            this.isClient = isClient;
            for (int i = 0; i < WIRE_LIMIT; i++) {
                packets[i] = new Row(PACKET_LIMIT);
            }
        }

        Row waitingAt(int k) {
            return packets[Math.floorMod(firstPacket + k, WIRE_LIMIT)];
        }

        Row takeFirst() {
            Row taken = packets[firstPacket];
            firstPacket = (firstPacket + 1) % WIRE_LIMIT;
            waiting--;
            return taken;
        }

        boolean maySend(int message) {
            if (message == INIT || message == NEW || message == REQUEST || message == REPLY) {
                return false;
            }
            boolean amidExchange = exchange.sentInit && !exchange.sentNew;
            return !amidExchange || message == END || message == IGNORE || message == UNKNOWN;
        }

        boolean isInPlace(int message, int size) {
            switch (message) {
                case INIT:
                    return size == INIT_SIZE && !exchange.gotInit;
                case REQUEST:
                    return size == REQUEST_SIZE && !isClient
                            && exchange.sentInit && exchange.gotInit && !exchange.hadRequest;
                case REPLY:
                    return size == REPLY_SIZE && isClient && exchange.hadRequest && !exchange.gotReply;
                case NEW:
                    return size == 1 && exchange.sentNew;
                case DATA:
                    return !exchange.gotInit && received.length + size - 1 <= GOT_LIMIT;
                default:
                    return true;
            }
        }

        void keepSession(int[] agreed) {
            if (!hasSession) {
                Row.copy(agreed, session);
                hasSession = true;
            }
        }

        void finishExchange() {
            incoming.become(nextIncoming);
            exchange.forget();
            exchangesOver++;
        }
    }

    /** What the two ends say to one another. */
    private static final class Talk {
        final End client = new End(true);
        final End server = new End(false);

        private final Curve curve = new Curve();
        private final Digest digest = new Digest();
        private final Envelope envelope = new Envelope();

        private final int[] hostSecret = new int[ROW];
        private final int[] trusted = new int[ROW];

        private final int[] hostRow = new int[ROW];
        private final int[] shared = new int[ROW];
        private final int[] agreed = new int[ROW];
        private final int[] mixed = new int[ROW];
        private final int[] due = new int[ROW];
        private final int[] proof = new int[ROW];

        private final Row message = new Row(PAYLOAD_LIMIT);
        private final Row arrived = new Row(PAYLOAD_LIMIT);
        private final Row hashed = new Row(2 * INIT_SIZE + 4 * ROW);

        int[] setting(int what) {
            switch (what) {
                case 0: return client.secret;
                case 1: return server.secret;
                case 2: return hostSecret;
                case 3: return trusted;
                case 4: return client.cookie;
                default: return server.cookie;
            }
        }

        /** An end that ended sends nothing; one that finds no room on the wire ends. */
        void transmit(End from, Row payload) {
            End to = from.isClient ? server : client;
            if (!from.lives) {
                return;
            }
            if (to.waiting >= WIRE_LIMIT) {
                from.lives = false;
                return;
            }
            envelope.wrap(payload, from.outgoing, from.sent, to.waitingAt(to.waiting));
            to.waiting++;
            from.sent++;
        }

        void sendInit(End end) {
            message.empty();
            message.add(INIT);
            message.addAll(end.cookie);
            // The cookie may be set anew before the payload is hashed: what was sent counts.
            message.copyTo(0, end.exchange.ownInit);
            end.exchange.sentInit = true;
            transmit(end, message);
        }

        /** Takes the first packet to an end off the wire: its message, or why it has none that counts. */
        int accept(End end) {
            if (end.waiting == 0) {
                return NO_PACKET;
            }
            Row packet = end.takeFirst();
            if (!end.lives) {
                return GONE;
            }
            end.came++;
            if (!envelope.unwrap(packet, end.incoming, end.came - 1, arrived)) {
                return BROKEN;
            }
            int kind = arrived.bytes[0];
            return end.isInPlace(kind, arrived.length) ? kind : MISPLACED;
        }

        /** Does what the end must do upon that which it has just accepted. */
        void answer(End end, int kind) {
            switch (kind) {
                case NO_PACKET:
                case GONE:
                case IGNORE:
                    break;
                case BROKEN:
                case MISPLACED:
                    quit(end);
                    break;
                case END:
                    end.lives = false;
                    break;
                case UNKNOWN:
                    end.lastUnknown = arrived.length == UNKNOWN_SIZE ? arrived.bigAt(1) : -1;
                    break;
                case INIT:
                    end.exchange.takeInit(arrived);
                    if (!end.exchange.sentInit) {
                        sendInit(end);
                    }
                    if (end.isClient) {
                        sendRequest();
                    }
                    break;
                case REQUEST:
                    sendReply();
                    sendNew(server);
                    break;
                case REPLY:
                    if (takeReply()) {
                        sendNew(client);
                    } else {
                        quit(client);
                    }
                    break;
                case NEW:
                    end.finishExchange();
                    break;
                case DATA:
                    end.received.addFrom(arrived, 1);
                    break;
                default:
                    sendUnknown(end);
                    break;
            }
        }

        private void quit(End end) {
            message.empty();
            message.add(END);
            transmit(end, message);
            end.lives = false;
        }

        private void sendUnknown(End end) {
            message.empty();
            message.add(UNKNOWN);
            message.addBig(end.came - 1);
            transmit(end, message);
        }

        private void sendRequest() {
            Exchange exchange = client.exchange;
            exchange.hadRequest = true;
            Row.copy(client.secret, exchange.secret);
            curve.publicRow(exchange.secret, exchange.ownPublic);
            message.empty();
            message.add(REQUEST);
            message.addAll(exchange.ownPublic);
            transmit(client, message);
        }

        private void sendReply() {
            Exchange exchange = server.exchange;
            exchange.hadRequest = true;
            arrived.copyTo(1, exchange.otherPublic);
            Row.copy(server.secret, exchange.secret);
            curve.publicRow(exchange.secret, exchange.ownPublic);
            curve.publicRow(hostSecret, hostRow);
            agree(server);
            server.keepSession(agreed);
            makeProof(hostSecret, exchange.otherPublic);
            message.empty();
            message.add(REPLY);
            message.addAll(hostRow);
            message.addAll(exchange.ownPublic);
            message.addAll(due);
            transmit(server, message);
        }

        /** Whether the client goes on. Its SESSION asks for the right proof alone, not for a row that it trusts. */
        private boolean takeReply() {
            Exchange exchange = client.exchange;
            exchange.gotReply = true;
            arrived.copyTo(1, hostRow);
            arrived.copyTo(1 + ROW, exchange.otherPublic);
            arrived.copyTo(1 + 2 * ROW, proof);
            agree(client);
            makeProof(exchange.secret, hostRow);
            if (!Row.same(proof, due)) {
                return false;
            }
            client.keepSession(agreed);
            return Row.same(hostRow, trusted);
        }

        /** NEW itself still goes by the old keys; SHARED and H of the exchange have just been made. */
        private void sendNew(End end) {
            message.empty();
            message.add(NEW);
            transmit(end, message);
            end.exchange.sentNew = true;
            makeKeys(end);
        }

        /** Makes SHARED and H, for the host's row that stands in hostRow. */
        private void agree(End end) {
            Exchange exchange = end.exchange;
            curve.times(exchange.secret, exchange.otherPublic, shared);
            hashed.empty();
            hashed.addAll(end.isClient ? exchange.ownInit : exchange.otherInit);
            hashed.addAll(end.isClient ? exchange.otherInit : exchange.ownInit);
            hashed.addAll(hostRow);
            hashed.addAll(end.isClient ? exchange.ownPublic : exchange.otherPublic);
            hashed.addAll(end.isClient ? exchange.otherPublic : exchange.ownPublic);
            hashed.addAll(shared);
            digest.of(hashed, agreed);
        }

        /** Makes the PROOF that is due. */
        private void makeProof(int[] secret, int[] point) {
            curve.times(secret, point, mixed);
            hashed.empty();
            hashed.addAll(mixed);
            hashed.addAll(agreed);
            digest.of(hashed, due);
        }

        /** Those for what comes wait until the other end's NEW has come. */
        private void makeKeys(End end) {
            Keys ofClient = end.isClient ? end.outgoing : end.nextIncoming;
            Keys ofServer = end.isClient ? end.nextIncoming : end.outgoing;
            makeKey(ofClient.head, 65, end.session);
            makeKey(ofClient.body, 66, end.session);
            makeKey(ofServer.head, 67, end.session);
            makeKey(ofServer.body, 68, end.session);
            ofClient.made = true;
            ofServer.made = true;
        }

        private void makeKey(int[] key, int letter, int[] session) {
            hashed.empty();
            hashed.addAll(shared);
            hashed.addAll(agreed);
            hashed.add(letter);
            hashed.addAll(session);
            digest.of(hashed, key);
        }
    }
}
