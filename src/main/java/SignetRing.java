import java.util.ArrayList;
import java.util.Arrays;

/** A ring of keys that seal and are sealed. README.md tells how to use it, the document what is due. */
public final class SignetRing {
    private static final int MOST_BYTES = 4096;
    private static final int MOST_ARMORED = 8000;
    private static final long LAST_TIME = 0xffffffffL;
    private static final int MOST_KEYS = 16;
    private static final int MOST_AT_KEY = 8;
    private static final int MOST_SEALS = 16;
    private static final int MOST_NAME = 200;

    private static final int SEAL = 2;
    private static final int FRONT = 4;
    private static final int SECRET_KEY = 5;
    private static final int PUBLIC_KEY = 6;
    private static final int SECRET_PART = 7;
    private static final int LETTER = 11;
    private static final int USER = 13;
    private static final int PUBLIC_PART = 14;

    private static final int FIRST_HASH = 2;
    private static final int SECOND_HASH = 8;
    private static final int PRINT_SIZE = 20;

    private static final int WRONG = 0;
    private static final int PASSED = 1;
    private static final int READ = 2;

    private static final int NOT_KNOWN = 0;
    private static final int TRUE = 1;
    private static final int UNTRUE = 2;

    private static final String BEGIN = "-----BEGIN ";
    private static final String END = "-----END ";
    private static final String DASHES = "-----";
    private static final String CLEAR = "SEALED TEXT";
    private static final int SEAL_LABEL = 1;

    /** Some bytes of a row, which others may look at too. */
    private static class Span {
        byte[] row;
        int from;
        int size;

        Span(byte[] row, int from, int size) {
            this.row = row;
            this.from = from;
            this.size = size;
        }

        void view(byte[] row, int from, int size) {
            this.row = row;
            this.from = from;
            this.size = size;
        }

        int at(int i) {
            int place = from + i;
            return i >= 0 && i < size && place >= 0 && place < row.length ? row[place] & 255 : 0;
        }

        long number(int i, int width) {
            long value = 0;
            for (int j = 0; j < width; j++) {
                int place = from + i + j;
                boolean there = i >= 0 && i + j < size && place >= 0 && place < row.length;
                value = value << 8 | (there ? row[place] & 255 : 0);
            }
            return value;
        }

        /** The place behind the NUMBER that begins at i, or -1 if there is none. */
        int numberEnd(int i) {
            if (i < 0 || i + 2 > size) {
                return -1;
            }
            int bits = (int) number(i, 2);
            int end = i + 2 + (bits + 7) / 8;
            if (bits == 0) {
                return end;
            }
            return end <= size && at(i + 2) >> (bits - 1) % 8 == 1 ? end : -1;
        }

        /** How many bytes tell the length at i, or 0 if it is that of a part or not all there. */
        int lengthWidth(int i) {
            int first = at(i);
            int width = first < 192 ? 1 : first < 224 ? 2 : first == 255 ? 5 : 0;
            return i >= 0 && i + width <= size ? width : 0;
        }

        long lengthAt(int i) {
            int first = at(i);
            if (first < 192) {
                return first;
            }
            return first < 224 ? (first - 192) * 256 + at(i + 1) + 192 : number(i + 1, 4);
        }

        boolean isLike(Span other) {
            boolean like = size == other.size;
            for (int i = 0; like && i < size; i++) {
                like = at(i) == other.at(i);
            }
            return like;
        }

        /** A row of their own for count bytes from i on. */
        byte[] copied(int i, int count) {
            int place = from + i;
            if (i < 0 || count < 0 || count > size - i || place < 0 || count > row.length - place) {
                return new byte[0];
            }
            return Arrays.copyOfRange(row, place, place + count);
        }
    }

    /** Bytes that are written one behind the other. */
    private static final class Bytes extends Span {
        Bytes(int room) {
            super(new byte[Math.max(room, 1)], 0, 0);
        }

        void push(int b) {
            if (size < 0) {
                return;
            }
            if (size >= row.length) {
                row = Arrays.copyOf(row, 2 * size + 1);
            }
            row[size] = (byte) b;
            size++;
        }

        void pushNumber(long value, int width) {
            for (int i = width - 1; i >= 0; i--) {
                push((int) (value >>> 8 * i));
            }
        }

        void pushSpan(Span span, int start, int end) {
            int count = end - start;
            int place = span.from + start;
            if (size < 0 || start < 0 || count <= 0 || end > span.size) {
                return;
            }
            if (place < 0 || count > span.row.length - place) {
                return;
            }
            if (count > row.length - size) {
                row = Arrays.copyOf(row, 2 * (size + count));
            }
            System.arraycopy(span.row, place, row, size, count);
            size += count;
        }

        /** Writes what a seal adds to the thing that it seals. */
        void pushSealed(Span seal, int sealedEnd) {
            pushSpan(seal, 0, sealedEnd);
            push(4);
            push(255);
            pushNumber(sealedEnd, 4);
        }

        /** Writes a key, or a part, as it is sealed. */
        void pushKey(Span key) {
            push(0x99);
            pushNumber(key.size, 2);
            pushSpan(key, 0, key.size);
        }

        /** Writes bytes with 13, 10 at the ends of their lines. */
        void pushLines(Span span) {
            int last = 0;
            for (int i = 0; i < span.size; i++) {
                int b = span.at(i);
                if (b == 10 && last != 13) {
                    push(13);
                }
                push(b);
                last = b;
            }
        }

        void pushText(String text) {
            for (int i = 0; i < text.length(); i++) {
                push(text.charAt(i));
            }
        }

        void pushHead(int kind, int length) {
            push(192 | kind);
            if (length < 192) {
                push(length);
            } else if (length < 8384) {
                pushNumber(length - 192 + 192 * 256, 2);
            } else {
                push(255);
                pushNumber(length, 4);
            }
        }

        void pushPacket(int kind, Span body) {
            pushHead(kind, body.size);
            pushSpan(body, 0, body.size);
        }
    }

    /** Packets, read one behind the other. */
    private static final class Packets {
        final Span body = new Span(new byte[0], 0, 0);
        final Bytes parts = new Bytes(256);
        Span in = body;
        int place;
        int next;
        int kind;

        void open(Span in) {
            this.in = in;
            place = 0;
            next = 0;
        }

        boolean more() {
            return next < in.size;
        }

        /** A fault at the packet that was read last. */
        int fault() {
            return -1 - place;
        }

        /** Reads the next packet: false if it is wrong, or not all there. */
        boolean read() {
            place = next;
            int head = in.at(place);
            if (place >= in.size || head < 128) {
                return false;
            }
            if ((head & 64) != 0) {
                kind = head & 63;
                return readParts(place + 1) || readWhole(place + 1);
            }
            kind = head >> 2 & 15;
            int width = 1 << (head & 3);
            if (width > 4 || place + 1 + width > in.size) {
                return false;
            }
            return cut(place + 1 + width, in.number(place + 1, width));
        }

        boolean readWhole(int i) {
            int width = in.lengthWidth(i);
            return width > 0 && cut(i + width, in.lengthAt(i));
        }

        boolean cut(int i, long length) {
            if (length > in.size - i) {
                return false;
            }
            body.view(in.row, in.from + i, (int) length);
            next = i + (int) length;
            return true;
        }

        /** Reads a packet that comes in parts, which are put together in a row of their own. */
        boolean readParts(int i) {
            if (kind != LETTER || !isPart(i)) {
                return false;
            }
            parts.size = 0;
            next = i;
            for (int turn = 0; turn <= MOST_BYTES && isPart(next); turn++) {
                if (!cut(next + 1, 1L << in.at(next) - 224)) {
                    return false;
                }
                parts.pushSpan(body, 0, body.size);
            }
            if (!readWhole(next)) {
                return false;
            }
            parts.pushSpan(body, 0, body.size);
            body.view(parts.row, 0, parts.size);
            return true;
        }

        boolean isPart(int i) {
            int first = in.at(i);
            return first >= 224 && first < 255;
        }
    }

    /** Lines, and the signs in them. */
    private static final class Signs {
        final Bytes plain = new Bytes(1024);
        Span in = plain;
        int next;
        int start;
        int end;
        int wholeEnd;
        boolean padded;

        static String label(int i) {
            return i == 0 ? "SEALED KEYS" : i == SEAL_LABEL ? "SEAL" : "SEALED LETTER";
        }

        static boolean isBlank(int b) {
            return b == 9 || b == 13 || b == 32;
        }

        static int sumOf(Span span) {
            int sum = 0xb704ce;
            for (int i = 0; i < span.size; i++) {
                sum ^= span.at(i) << 16;
                for (int bit = 0; bit < 8; bit++) {
                    sum <<= 1;
                    if ((sum & 0x1000000) != 0) {
                        sum ^= 0x1864cfb;
                    }
                }
            }
            return sum;
        }

        static int valueOf(int sign) {
            if (sign >= 'A' && sign <= 'Z') {
                return sign - 'A';
            }
            if (sign >= 'a' && sign <= 'z') {
                return sign - 'a' + 26;
            }
            if (sign >= '0' && sign <= '9') {
                return sign - '0' + 52;
            }
            return sign == '+' ? 62 : sign == '/' ? 63 : -1;
        }

        static int signOf(int value) {
            if (value < 26) {
                return 'A' + value;
            }
            if (value < 52) {
                return 'a' + value - 26;
            }
            return value < 62 ? '0' + value - 52 : value == 62 ? '+' : '/';
        }

        void open(Span in) {
            this.in = in;
            next = 0;
        }

        /** Goes to the next line; where there is none, to the end, so that a fault tells that place. */
        boolean advance() {
            start = next;
            int i = start;
            while (i < in.size && in.at(i) != 10) {
                i++;
            }
            boolean there = start < in.size;
            wholeEnd = i;
            next = Math.min(i + 1, in.size);
            end = i;
            while (end > start && isBlank(in.at(end - 1))) {
                end--;
            }
            return there;
        }

        int fault() {
            return -100000 - start;
        }

        boolean isEmpty() {
            return end == start;
        }

        boolean hasText(int i, String text) {
            boolean same = i + text.length() <= end;
            for (int j = 0; same && j < text.length(); j++) {
                same = in.at(i + j) == text.charAt(j);
            }
            return same;
        }

        boolean isFramed(String front, String label) {
            int behindFront = start + front.length();
            int behindLabel = behindFront + label.length();
            return hasText(start, front) && hasText(behindFront, label) && hasText(behindLabel, DASHES)
                && end == behindLabel + DASHES.length();
        }

        /** Which label the line begins, or -1. */
        int begun() {
            int found = -1;
            for (int i = 0; i < 3; i++) {
                if (isFramed(BEGIN, label(i))) {
                    found = i;
                }
            }
            return found;
        }

        boolean hasColon() {
            boolean found = false;
            for (int i = start; i + 1 < end; i++) {
                found |= in.at(i) == ':' && in.at(i + 1) == 32;
            }
            return found;
        }

        /** Goes over lines with colons to the empty one. */
        boolean readHead() {
            for (int turn = 0; turn <= MOST_BYTES && advance(); turn++) {
                if (isEmpty()) {
                    return true;
                }
                if (!hasColon()) {
                    return false;
                }
            }
            return false;
        }

        /** Reads what stands behind the line that begins the label: 0, or a fault. */
        int read(int label) {
            plain.size = 0;
            padded = false;
            boolean right = readHead() && readLines() && advance() && isFramed(END, label(label)) && readEnd();
            return right ? 0 : fault();
        }

        boolean readLines() {
            for (int turn = 0; turn <= MOST_BYTES && advance(); turn++) {
                if (hasText(start, "=")) {
                    return isSum();
                }
                if (padded || !readLine()) {
                    return false;
                }
            }
            return false;
        }

        boolean readLine() {
            int length = end - start;
            boolean right = length > 0 && length % 4 == 0;
            for (int i = start; right && i < end; i += 4) {
                right = !padded && readGroup(i);
            }
            return right;
        }

        boolean readGroup(int i) {
            int count = in.at(i + 3) != '=' ? 3 : in.at(i + 2) != '=' ? 2 : 1;
            int bits = 0;
            for (int j = 0; j < 4; j++) {
                int value = j <= count ? valueOf(in.at(i + j)) : 0;
                if (value < 0) {
                    return false;
                }
                bits = bits << 6 | value;
            }
            int left = (1 << 24 - 8 * count) - 1;
            if ((bits & left) != 0) {
                return false;
            }
            padded = count < 3;
            for (int j = 0; j < count; j++) {
                plain.push(bits >> 16 - 8 * j);
            }
            return true;
        }

        boolean isSum() {
            int sum = 0;
            for (int i = start + 1; i < start + 5; i++) {
                int value = i < end ? valueOf(in.at(i)) : -1;
                if (value < 0) {
                    return false;
                }
                sum = sum << 6 | value;
            }
            return end == start + 5 && sum == sumOf(plain);
        }

        boolean readEnd() {
            for (int turn = 0; turn <= MOST_BYTES && advance(); turn++) {
                if (!isEmpty()) {
                    return false;
                }
            }
            return true;
        }

        /** Reads clear text up to the line that begins its seal: false at a line that is wrong. */
        boolean readText(Bytes text) {
            text.size = 0;
            if (!readHead()) {
                return false;
            }
            for (int turn = 0; turn <= MOST_BYTES && advance(); turn++) {
                if (begun() == SEAL_LABEL) {
                    return true;
                }
                boolean dash = in.at(start) == '-' && start < wholeEnd;
                if (dash && (start + 1 >= wholeEnd || in.at(start + 1) != 32)) {
                    return false;
                }
                if (turn > 0) {
                    text.push(10);
                }
                text.pushSpan(in, dash ? start + 2 : start, end);
            }
            return false;
        }

        static void write(Span from, int label, Bytes to) {
            to.pushText(BEGIN);
            to.pushText(label(label));
            to.pushText(DASHES);
            to.push(10);
            to.push(10);
            for (int i = 0; i < from.size; i += 3) {
                writeGroup(from.number(i, 3), Math.min(from.size - i, 3), to);
                if (i % 48 == 45 || i + 3 >= from.size) {
                    to.push(10);
                }
            }
            to.push('=');
            writeGroup(sumOf(from), 3, to);
            to.push(10);
            to.pushText(END);
            to.pushText(label(label));
            to.pushText(DASHES);
            to.push(10);
        }

        static void writeGroup(long bits, int count, Bytes to) {
            for (int j = 0; j < 4; j++) {
                to.push(j <= count ? signOf((int) (bits >> 18 - 6 * j) & 63) : '=');
            }
        }
    }

    /** One of the two hashes of the federal standard 180. */
    private static final class Digest {
        private static final int[] START_FIRST = {
            0x67452301, 0xefcdab89, 0x98badcfe, 0x10325476, 0xc3d2e1f0, 0, 0, 0};
        private static final int[] START_SECOND = {
            0x6a09e667, 0xbb67ae85, 0x3c6ef372, 0xa54ff53a, 0x510e527f, 0x9b05688c, 0x1f83d9ab, 0x5be0cd19};
        private static final int[] ROUNDS = {
            0x428a2f98, 0x71374491, 0xb5c0fbcf, 0xe9b5dba5, 0x3956c25b, 0x59f111f1, 0x923f82a4, 0xab1c5ed5,
            0xd807aa98, 0x12835b01, 0x243185be, 0x550c7dc3, 0x72be5d74, 0x80deb1fe, 0x9bdc06a7, 0xc19bf174,
            0xe49b69c1, 0xefbe4786, 0x0fc19dc6, 0x240ca1cc, 0x2de92c6f, 0x4a7484aa, 0x5cb0a9dc, 0x76f988da,
            0x983e5152, 0xa831c66d, 0xb00327c8, 0xbf597fc7, 0xc6e00bf3, 0xd5a79147, 0x06ca6351, 0x14292967,
            0x27b70a85, 0x2e1b2138, 0x4d2c6dfc, 0x53380d13, 0x650a7354, 0x766a0abb, 0x81c2c92e, 0x92722c85,
            0xa2bfe8a1, 0xa81a664b, 0xc24b8b70, 0xc76c51a3, 0xd192e819, 0xd6990624, 0xf40e3585, 0x106aa070,
            0x19a4c116, 0x1e376c08, 0x2748774c, 0x34b0bcb5, 0x391c0cb3, 0x4ed8aa4a, 0x5b9cca4f, 0x682e6ff3,
            0x748f82ee, 0x78a5636f, 0x84c87814, 0x8cc70208, 0x90befffa, 0xa4506ceb, 0xbef9a3f7, 0xc67178f2};

        final int[] state = new int[8];
        final int[] words = new int[80];
        boolean second;

        void make(int which, Span span) {
            second = which == SECOND_HASH;
            for (int i = 0; i < 8; i++) {
                state[i] = second ? START_SECOND[i] : START_FIRST[i];
            }
            int blocks = (span.size + 8) / 64 + 1;
            for (int block = 0; block < blocks; block++) {
                for (int i = 0; i < 16; i++) {
                    words[i] = wordOf(span, 64 * block + 4 * i);
                }
                if (block == blocks - 1) {
                    words[15] = 8 * span.size;
                }
                if (second) {
                    mixSecond();
                } else {
                    mixFirst();
                }
            }
        }

        /** Four bytes as a word: behind the last byte stands 128, and then zeros. */
        static int wordOf(Span span, int place) {
            int word = (int) span.number(place, 4);
            int left = span.size - place;
            return left >= 0 && left < 4 ? word | 128 << 24 - 8 * left : word;
        }

        int size() {
            return second ? 32 : 20;
        }

        int at(int i) {
            return i >= 0 && i < 32 ? state[i >> 2] >>> 24 - 8 * (i & 3) & 255 : 0;
        }

        void mixFirst() {
            for (int i = 16; i < 80; i++) {
                int x = words[i - 3] ^ words[i - 8] ^ words[i - 14] ^ words[i - 16];
                words[i] = x << 1 | x >>> 31;
            }
            int a = state[0];
            int b = state[1];
            int c = state[2];
            int d = state[3];
            int e = state[4];
            for (int i = 0; i < 80; i++) {
                int mixed;
                if (i < 20) {
                    mixed = (b & c | ~b & d) + 0x5a827999;
                } else if (i < 40) {
                    mixed = (b ^ c ^ d) + 0x6ed9eba1;
                } else if (i < 60) {
                    mixed = (b & c | b & d | c & d) + 0x8f1bbcdc;
                } else {
                    mixed = (b ^ c ^ d) + 0xca62c1d6;
                }
                int next = (a << 5 | a >>> 27) + mixed + e + words[i];
                e = d;
                d = c;
                c = b << 30 | b >>> 2;
                b = a;
                a = next;
            }
            state[0] += a;
            state[1] += b;
            state[2] += c;
            state[3] += d;
            state[4] += e;
        }

        void mixSecond() {
            for (int i = 16; i < 64; i++) {
                int x = words[i - 15];
                int y = words[i - 2];
                words[i] = ((x >>> 7 | x << 25) ^ (x >>> 18 | x << 14) ^ x >>> 3) + words[i - 16]
                    + ((y >>> 17 | y << 15) ^ (y >>> 19 | y << 13) ^ y >>> 10) + words[i - 7];
            }
            int a = state[0];
            int b = state[1];
            int c = state[2];
            int d = state[3];
            int e = state[4];
            int f = state[5];
            int g = state[6];
            int h = state[7];
            for (int i = 0; i < 64; i++) {
                int one = h + ((e >>> 6 | e << 26) ^ (e >>> 11 | e << 21) ^ (e >>> 25 | e << 7))
                    + (e & f ^ ~e & g) + ROUNDS[i] + words[i];
                int two = ((a >>> 2 | a << 30) ^ (a >>> 13 | a << 19) ^ (a >>> 22 | a << 10))
                    + (a & b ^ a & c ^ b & c);
                h = g;
                g = f;
                f = e;
                e = d + one;
                d = c;
                c = b;
                b = a;
                a = one + two;
            }
            state[0] += a;
            state[1] += b;
            state[2] += c;
            state[3] += d;
            state[4] += e;
            state[5] += f;
            state[6] += g;
            state[7] += h;
        }
    }

    /**
     * Powers modulo a key's n, in Montgomery's way. Limbs have 28 bits, so that the products of a
     * whole column fit in a long and no carry is needed inside.
     */
    private static final class Power {
        private static final int BITS = 28;
        private static final long MASK = (1L << BITS) - 1;
        private static final int MOST_LIMBS = 37;
        private static final int ROOM = MOST_LIMBS + 1;

        final long[] modulus = new long[ROOM];
        final long[] quotient = new long[ROOM];
        final long[] one = new long[ROOM];
        final long[] unit = new long[ROOM];
        final long[] square = new long[ROOM];
        final long[] base = new long[ROOM];
        final long[] power = new long[ROOM];
        Key key;
        int limbs = 1;
        int bytes;
        long inverse;

        Power() {
            one[0] = 1;
        }

        /** Takes a key's n, unless it is the one that was taken last. */
        void open(Key key) {
            if (this.key == key) {
                return;
            }
            this.key = key;
            bytes = (key.bits + 7) / 8;
            limbs = Math.max(1, Math.min((key.bits + BITS - 1) / BITS, MOST_LIMBS));
            load(modulus, key, key.exponentAt - bytes, bytes);
            inverse = inverseOf(modulus[0]);
            // unit is 1 in Montgomery's form: a power of 2 below n is doubled up to 2^(28 limbs)
            int top = Math.max(key.bits - 1, 0);
            Arrays.fill(unit, 0);
            if (top / BITS < ROOM) {
                unit[top / BITS] = 1L << top % BITS;
            }
            for (int i = top; i < BITS * limbs; i++) {
                doubleUp(unit);
            }
            // square is 2^(28 limbs) in that form: it brings other numbers into it
            System.arraycopy(unit, 0, square, 0, ROOM);
            for (int bit = 10; bit >= 0; bit--) {
                multiply(square, square, square);
                if ((BITS * limbs >> bit & 1) != 0) {
                    doubleUp(square);
                }
            }
        }

        /** What makes -1 of an odd number modulo 2^28; each turn doubles the bits that are right. */
        static long inverseOf(long odd) {
            long inverted = odd;
            for (int i = 0; i < 5; i++) {
                inverted *= 2 - odd * inverted;
            }
            return -inverted & MASK;
        }

        void load(long[] row, Span span, int from, int count) {
            Arrays.fill(row, 0);
            for (int i = 0; i < count; i++) {
                int limb = 8 * i / BITS;
                int shift = 8 * i % BITS;
                long b = span.at(from + count - 1 - i);
                if (limb + 1 < row.length) {
                    row[limb] |= b << shift & MASK;
                    row[limb + 1] |= b << shift >> BITS;
                }
            }
        }

        void doubleUp(long[] row) {
            long carry = 0;
            for (int i = 0; i < limbs && i < row.length; i++) {
                carry += row[i] << 1;
                row[i] = carry & MASK;
                carry >>= BITS;
            }
            reduce(row, carry);
        }

        /** Takes n away once, where a row (with a carry above it) is not below n. */
        void reduce(long[] row, long carry) {
            int top = Math.min(limbs, Math.min(row.length, ROOM));
            int i = top - 1;
            while (i > 0 && row[i] == modulus[i]) {
                i--;
            }
            if (carry == 0 && i >= 0 && row[i] < modulus[i]) {
                return;
            }
            long borrow = 0;
            for (int j = 0; j < top; j++) {
                long left = row[j] - modulus[j] + borrow;
                row[j] = left & MASK;
                borrow = left >> BITS;
            }
        }

        /** to becomes a b / 2^(28 limbs) modulo n; it may be one of the two. */
        void multiply(long[] a, long[] b, long[] to) {
            int top = limbs;
            long[] n = modulus;
            long[] q = quotient;
            if (top > a.length || top > b.length || top > to.length || top > n.length || top > q.length) {
                return;
            }
            long sum = 0;
            for (int i = 0; i < top; i++) {
                for (int j = 0; j < i; j++) {
                    sum += a[j] * b[i - j] + q[j] * n[i - j];
                }
                sum += a[i] * b[0];
                q[i] = sum * inverse & MASK;
                sum = sum + q[i] * n[0] >>> BITS;
            }
            for (int i = 0; i < top; i++) {
                for (int j = i + 1; j < top; j++) {
                    sum += a[j] * b[i + top - j] + q[j] * n[i + top - j];
                }
                to[i] = sum & MASK;
                sum >>>= BITS;
            }
            reduce(to, sum);
        }

        /** power becomes base, raised to the number of count bytes. */
        void raise(Span span, int from, int count) {
            multiply(base, square, base);
            System.arraycopy(unit, 0, power, 0, ROOM);
            boolean begun = false;
            for (int i = 0; i < 8 * count; i++) {
                if (begun) {
                    multiply(power, power, power);
                }
                if ((span.at(from + i / 8) >> 7 - i % 8 & 1) != 0) {
                    multiply(power, base, power);
                    begun = true;
                }
            }
            multiply(power, one, power);
        }

        int countBits() {
            int bits = 8 * bytes;
            while (bits > 0 && byteAt(bytes - (bits + 7) / 8) >> (bits - 1) % 8 == 0) {
                bits--;
            }
            return bits;
        }

        /** Byte i of the power, of as many as n has, the highest first. */
        int byteAt(int i) {
            int bit = 8 * (bytes - 1 - i);
            int limb = bit / BITS;
            if (bit < 0 || limb + 1 >= ROOM) {
                return 0;
            }
            return (int) ((power[limb] | power[limb + 1] << BITS) >> bit % BITS) & 255;
        }
    }

    /** A seal: its bytes, and what is read from them. */
    private static final class Seal extends Span {
        int type;
        int hash;
        int sealedEnd;
        int check;
        boolean vain;
        long made;
        long lasts;
        long keyLasts;
        int uses;
        int why;
        int nameAt;
        int printAt;
        int innerAt;
        int innerSize;
        int truth;

        Seal(byte[] row) {
            super(row, 0, row.length);
        }

        /** READ, or PASSED, or WRONG. */
        int read() {
            forget();
            if (size < 1 || at(0) == 4 && size < 4) {
                return WRONG;
            }
            type = at(1);
            hash = at(3);
            if (at(0) != 4 || at(2) != 1 || hash != FIRST_HASH && hash != SECOND_HASH) {
                return PASSED;
            }
            sealedEnd = 6 + (int) number(4, 2);
            check = sealedEnd + 2 + (int) number(sealedEnd, 2);
            if (sealedEnd + 2 > size || check + 2 > size || numberEnd(check + 2) != size) {
                return WRONG;
            }
            // the sealed ones come last: where there is one, it counts
            if (!readNotes(sealedEnd + 2, check, false) || !readNotes(6, sealedEnd, true)) {
                return WRONG;
            }
            vain |= made < 0;
            return READ;
        }

        void forget() {
            vain = false;
            made = -1;
            lasts = 0;
            keyLasts = 0;
            uses = -1;
            why = -1;
            nameAt = -1;
            printAt = -1;
            innerAt = -1;
            innerSize = 0;
            truth = NOT_KNOWN;
        }

        boolean readNotes(int start, int end, boolean sealed) {
            int i = start;
            while (i < end) {
                int width = lengthWidth(i);
                long length = lengthAt(i);
                if (width == 0 || length < 1 || length > end - i - width) {
                    return false;
                }
                if (!readNote(i + width, (int) length - 1, sealed)) {
                    return false;
                }
                i += width + (int) length;
            }
            return true;
        }

        /** Reads the note whose kind stands at i, and says count bytes. */
        boolean readNote(int i, int count, boolean sealed) {
            int said = i + 1;
            switch (at(i) & 127) {
                case 2:
                    made = sealed ? number(said, 4) : made;
                    return count == 4;
                case 3:
                    lasts = sealed ? number(said, 4) : lasts;
                    return count == 4;
                case 9:
                    keyLasts = sealed ? number(said, 4) : keyLasts;
                    return count == 4;
                case 16:
                    nameAt = said;
                    return count == 8;
                case 27:
                    uses = sealed ? at(said) : uses;
                    return count > 0;
                case 29:
                    why = sealed ? at(said) : why;
                    return count > 0;
                case 32:
                    innerAt = said;
                    innerSize = count;
                    return true;
                case 33:
                    printAt = said + 1;
                    return count == 21 && at(said) == 4;
                default:
                    vain |= sealed && at(i) > 127;
                    return true;
            }
        }

        boolean hasEnded(long t) {
            return lasts != 0 && made + lasts <= t;
        }
    }

    /** What seals stand at: a user's bytes, or those of a key or part without its secret. */
    private static class Place extends Span {
        final ArrayList<Seal> seals = new ArrayList<Seal>();
        int keptSeals;

        Place(byte[] row) {
            super(row, 0, row.length);
        }

        boolean has(Seal seal) {
            boolean found = false;
            for (int i = 0; !found && i < seals.size(); i++) {
                found = seals.get(i).isLike(seal);
            }
            return found;
        }

        void keepSeals() {
            keptSeals = seals.size();
        }

        void undoSeals() {
            for (int i = seals.size() - 1; i >= keptSeals; i--) {
                seals.remove(i);
            }
        }

        int kind() {
            return USER;
        }
    }

    /** A key, or a part of one (which has neither users nor parts). */
    private static final class Key extends Place {
        final Key owner;
        final ArrayList<Place> users = new ArrayList<Place>();
        final ArrayList<Key> parts = new ArrayList<Key>();
        final byte[] print = new byte[PRINT_SIZE];
        int keptUsers;
        int keptParts;
        long made;
        int bits;
        int exponentAt;
        int secretAt;
        Span secret;
        boolean keptSecret;

        /** A key, or a part, which has an owner. */
        Key(byte[] row, Key owner) {
            super(row);
            this.owner = owner == null ? this : owner;
        }

        /** A key (or part) like this one, with a row of its own, and without a secret. */
        Key kept(Key owner) {
            Key key = new Key(copied(0, size), owner);
            System.arraycopy(print, 0, key.print, 0, PRINT_SIZE);
            key.made = made;
            key.bits = bits;
            key.exponentAt = exponentAt;
            return key;
        }

        int kind() {
            return owner == this ? PUBLIC_KEY : PUBLIC_PART;
        }

        boolean read(Span body, boolean withSecret) {
            int exponent = body.numberEnd(6);
            int end = body.numberEnd(exponent);
            if (end < 0 || body.at(0) != 4 || body.at(5) != 1) {
                return false;
            }
            made = body.number(1, 4);
            bits = (int) body.number(6, 2);
            exponentAt = exponent;
            int exponentBits = (int) body.number(exponent, 2);
            if (bits < 497 || bits > 1024 || exponentBits < 2 || exponentBits > 32) {
                return false;
            }
            if ((body.at(exponent - 1) & body.at(end - 1) & 1) == 0) {
                return false;
            }
            view(body.row, body.from, end);
            secretAt = end + 1;
            return withSecret ? hasSecret(body) : end == body.size;
        }

        /** Whether a right secret stands behind the zero at the end of what is no secret. */
        boolean hasSecret(Span body) {
            int end = secretAt;
            for (int i = 0; i < 4; i++) {
                end = body.numberEnd(end);
            }
            if (end < 0 || end + 2 != body.size || body.at(secretAt - 1) != 0) {
                return false;
            }
            int sum = 0;
            for (int i = secretAt; i < end; i++) {
                sum += body.at(i);
            }
            return body.number(secretAt, 2) <= bits && (sum & 0xffff) == body.number(end, 2);
        }

        void giveSecret(Span body, int at) {
            if (secret == null) {
                int count = ((int) body.number(at, 2) + 7) / 8;
                secret = new Span(body.copied(at + 2, count), 0, count);
            }
        }

        void makePrint(Digest digest, Bytes message) {
            message.size = 0;
            message.pushKey(this);
            digest.make(FIRST_HASH, message);
            for (int i = 0; i < PRINT_SIZE; i++) {
                print[i] = (byte) digest.at(i);
            }
        }

        /** Whether the print, but for its first bytes that are skipped, stands at a place. */
        boolean hasPrint(Span span, int at, int skipped) {
            boolean same = true;
            for (int i = Math.max(skipped, 0); same && i < PRINT_SIZE; i++) {
                same = span.at(at + i - skipped) == (print[i] & 255);
            }
            return same;
        }

        boolean isLikeKey(Key other) {
            boolean same = true;
            for (int i = 0; same && i < PRINT_SIZE; i++) {
                same = print[i] == other.print[i];
            }
            return same;
        }

        int countSeals() {
            int count = seals.size();
            for (int i = 0; i < users.size(); i++) {
                count += users.get(i).seals.size();
            }
            for (int i = 0; i < parts.size(); i++) {
                count += parts.get(i).seals.size();
            }
            return count;
        }

        /** What was joined stays. */
        void keep() {
            keepSeals();
            keptSecret = secret != null;
            keptUsers = users.size();
            keptParts = parts.size();
            for (int i = 0; i < users.size(); i++) {
                users.get(i).keepSeals();
            }
            for (int i = 0; i < parts.size(); i++) {
                parts.get(i).keepSeals();
                parts.get(i).keptSecret = parts.get(i).secret != null;
            }
        }

        /** What was joined since it was last kept goes. */
        void undo() {
            undoSeals();
            secret = keptSecret ? secret : null;
            for (int i = users.size() - 1; i >= keptUsers; i--) {
                users.remove(i);
            }
            for (int i = parts.size() - 1; i >= keptParts; i--) {
                parts.remove(i);
            }
            for (int i = 0; i < users.size(); i++) {
                users.get(i).undoSeals();
            }
            for (int i = 0; i < parts.size(); i++) {
                Key part = parts.get(i);
                part.undoSeals();
                part.secret = part.keptSecret ? part.secret : null;
            }
        }
    }

    /** The keys, and how packets are joined with them. */
    private static final class Ring {
        final ArrayList<Key> keys = new ArrayList<Key>();
        final Digest digest = new Digest();
        final Bytes message = new Bytes(256);
        final Key newKey = new Key(new byte[0], null);
        final Seal newSeal = new Seal(new byte[0]);
        Key key;
        Place place;

        /** Joins all packets: how many keys were read; or a fault, and then nothing is joined. */
        int joinAll(Packets packets) {
            key = null;
            place = null;
            int count = 0;
            int kept = keys.size();
            for (int turn = 0; turn <= MOST_BYTES && packets.more(); turn++) {
                if (!packets.read() || !joinPacket(packets.kind, packets.body)) {
                    undo(kept);
                    return packets.fault();
                }
                if (packets.kind == PUBLIC_KEY || packets.kind == SECRET_KEY) {
                    count++;
                }
            }
            for (int i = 0; i < keys.size(); i++) {
                keys.get(i).keep();
            }
            return count > 0 ? count : -1 - packets.in.size;
        }

        void undo(int kept) {
            for (int i = keys.size() - 1; i >= kept; i--) {
                keys.remove(i);
            }
            for (int i = 0; i < keys.size(); i++) {
                keys.get(i).undo();
            }
        }

        /** False if the packet is wrong, of a kind that may not be there, or finds no room. */
        boolean joinPacket(int kind, Span body) {
            switch (kind) {
                case SEAL:
                    return joinSeal(body);
                case PUBLIC_KEY:
                case SECRET_KEY:
                    return joinKey(keys, null, body, kind == SECRET_KEY);
                case PUBLIC_PART:
                case SECRET_PART:
                    return key != null && joinKey(key.parts, key, body, kind == SECRET_PART);
                case USER:
                    return joinUser(body);
                case 10:
                case 12:
                case 17:
                    return true;
                default:
                    return kind >= 40;
            }
        }

        /** The one of some keys that has the print of the new one, or null. */
        Key known(ArrayList<Key> among) {
            Key found = null;
            for (int i = 0; found == null && i < among.size(); i++) {
                if (among.get(i).isLikeKey(newKey)) {
                    found = among.get(i);
                }
            }
            return found;
        }

        /** Joins a key with others, or a part with those of its owner. */
        boolean joinKey(ArrayList<Key> among, Key owner, Span body, boolean withSecret) {
            if (!newKey.read(body, withSecret)) {
                return false;
            }
            newKey.makePrint(digest, message);
            Key there = known(among);
            if (there == null) {
                if (among.size() >= (owner == null ? MOST_KEYS : MOST_AT_KEY)) {
                    return false;
                }
                there = newKey.kept(owner);
                among.add(there);
            }
            if (withSecret) {
                there.giveSecret(body, newKey.secretAt);
            }
            key = there.owner;
            place = there;
            return true;
        }

        boolean joinUser(Span body) {
            if (key == null) {
                return false;
            }
            for (int i = 0; i < key.users.size(); i++) {
                if (key.users.get(i).isLike(body)) {
                    place = key.users.get(i);
                    return true;
                }
            }
            if (key.users.size() >= MOST_AT_KEY || body.size > MOST_NAME) {
                return false;
            }
            place = new Place(body.copied(0, body.size));
            key.users.add(place);
            return true;
        }

        boolean joinSeal(Span body) {
            if (place == null) {
                return false;
            }
            newSeal.view(body.row, body.from, body.size);
            int found = newSeal.read();
            if (found != READ || place.has(newSeal)) {
                return found != WRONG;
            }
            if (place.seals.size() >= MOST_SEALS) {
                return false;
            }
            Seal kept = new Seal(newSeal.copied(0, newSeal.size));
            kept.read();
            place.seals.add(kept);
            return true;
        }
    }

    /** What seals are true, which count, and what keys are by them. */
    private static final class Judge {
        private static final int[] FRONT_FIRST = {48, 33, 48, 9, 6, 5, 43, 14, 3, 2, 26, 5, 0, 4, 20};
        private static final int[] FRONT_SECOND = {
            48, 49, 48, 13, 6, 9, 96, 134, 72, 1, 101, 3, 4, 2, 1, 5, 0, 4, 32};

        final Digest digest = new Digest();
        final Bytes message = new Bytes(1024);
        final Power power = new Power();
        final Bytes frame = new Bytes(128);
        final Seal inner = new Seal(new byte[0]);

        void digestThing(Seal seal, Key key, Place place) {
            message.size = 0;
            message.pushKey(key);
            if (place.kind() == USER) {
                message.push(0xb4);
                message.pushNumber(place.size, 4);
                message.pushSpan(place, 0, place.size);
            } else if (place != key) {
                message.pushKey(place);
            }
            message.pushSealed(seal, seal.sealedEnd);
            digest.make(seal.hash, message);
        }

        void digestDocument(Span document, int type, int hash, Span seal, int sealedEnd) {
            message.size = 0;
            if (type == 1) {
                message.pushLines(document);
            } else {
                message.pushSpan(document, 0, document.size);
            }
            message.pushSealed(seal, sealedEnd);
            digest.make(hash, message);
        }

        /** The number that stands for the digest, in as many bytes as n has. */
        void makeFrame(int size) {
            int[] front = digest.second ? FRONT_SECOND : FRONT_FIRST;
            int filler = size - 3 - front.length - digest.size();
            frame.size = 0;
            frame.push(0);
            frame.push(1);
            for (int i = 0; i < filler; i++) {
                frame.push(255);
            }
            frame.push(0);
            for (int i = 0; i < front.length; i++) {
                frame.push(front[i]);
            }
            for (int i = 0; i < digest.size(); i++) {
                frame.push(digest.at(i));
            }
        }

        /** Whether a seal of what was digested is true by a key. */
        boolean isTrueBy(Seal seal, Key by) {
            if (seal.at(seal.check) != digest.at(0) || seal.at(seal.check + 1) != digest.at(1) || !isBelow(seal, by)) {
                return false;
            }
            power.open(by);
            power.load(power.base, seal, seal.check + 4, seal.size - seal.check - 4);
            power.raise(by, by.exponentAt + 2, by.size - by.exponentAt - 2);
            makeFrame(power.bytes);
            boolean same = true;
            for (int i = 0; same && i < frame.size; i++) {
                same = power.byteAt(i) == frame.at(i);
            }
            return same;
        }

        /** Whether a seal's number is below a key's n; both tell how many bits they have. */
        boolean isBelow(Seal seal, Key by) {
            int bits = (int) seal.number(seal.check + 2, 2);
            if (bits != by.bits) {
                return bits < by.bits;
            }
            int i = 8;
            while (i < by.exponentAt && seal.at(seal.check - 4 + i) == by.at(i)) {
                i++;
            }
            return i < by.exponentAt && seal.at(seal.check - 4 + i) < by.at(i);
        }

        /** Writes the number that seals what was digested. */
        void writeNumber(Key by, Span secret, Bytes to) {
            power.open(by);
            makeFrame(power.bytes);
            power.load(power.base, frame, 0, frame.size);
            power.raise(secret, 0, secret.size);
            int bits = power.countBits();
            to.pushNumber(bits, 2);
            for (int i = power.bytes - (bits + 7) / 8; i < power.bytes; i++) {
                to.push(power.byteAt(i));
            }
        }

        /** Finds out which seals of a key are true by it; what was found once is known for ever. */
        void settle(Key key) {
            settleAt(key, key);
            for (int i = 0; i < key.users.size(); i++) {
                settleAt(key, key.users.get(i));
            }
            for (int i = 0; i < key.parts.size(); i++) {
                settleAt(key, key.parts.get(i));
            }
        }

        void settleAt(Key key, Place place) {
            for (int i = 0; i < place.seals.size(); i++) {
                Seal seal = place.seals.get(i);
                if (seal.truth == NOT_KNOWN && !seal.vain) {
                    digestThing(seal, key, place);
                    seal.truth = isTrueBy(seal, key) ? TRUE : UNTRUE;
                }
            }
        }

        boolean counts(Seal seal, Key key, long t) {
            return seal.truth == TRUE && !seal.vain && seal.made <= t && seal.made >= key.made && !seal.hasEnded(t);
        }

        /** Of the seals at a place, of some types, that count: the one made last, and the later one. */
        Seal latest(Key key, Place place, int lowest, int highest, long t) {
            Seal found = null;
            for (int i = 0; i < place.seals.size(); i++) {
                Seal seal = place.seals.get(i);
                if (seal.type >= lowest && seal.type <= highest && counts(seal, key, t)
                    && (found == null || seal.made >= found.made)) {
                    found = seal;
                }
            }
            return found;
        }

        Seal bondOf(Key key, long t) {
            Seal bond = latest(key, key, 0x1f, 0x1f, t);
            for (int i = 0; i < key.users.size(); i++) {
                Place user = key.users.get(i);
                Seal seal = latest(key, user, 0x10, 0x13, t);
                Seal against = latest(key, user, 0x30, 0x30, t);
                if (seal != null && (against == null || against.made < seal.made)
                    && (bond == null || seal.made > bond.made)) {
                    bond = seal;
                }
            }
            return bond;
        }

        boolean isRevoked(Key key, Place place, int type, long t) {
            boolean found = false;
            for (int i = 0; !found && i < place.seals.size(); i++) {
                Seal seal = place.seals.get(i);
                found = seal.type == type && seal.truth == TRUE && !seal.vain
                    && (counts(seal, key, t) || seal.why != 1 && seal.why != 3);
            }
            return found;
        }

        /** What a key, or part, is at a time. */
        int stateOf(Key asked, long t) {
            Key key = asked.owner;
            settle(key);
            int state = keyState(key, t);
            return asked == key ? state : partState(key, asked, state, t);
        }

        int keyState(Key key, long t) {
            if (t < key.made) {
                return 1;
            }
            if (isRevoked(key, key, 0x20, t)) {
                return 3;
            }
            Seal bond = bondOf(key, t);
            if (bond == null) {
                return 4;
            }
            if (bond.keyLasts != 0 && key.made + bond.keyLasts <= t) {
                return 2;
            }
            return bond.uses >= 0 && (bond.uses & 2) == 0 ? 5 : 0;
        }

        int partState(Key key, Key part, int keyState, long t) {
            if (keyState >= 1 && keyState <= 4) {
                return keyState;
            }
            if (t < part.made) {
                return 1;
            }
            if (isRevoked(key, part, 0x28, t)) {
                return 3;
            }
            Seal bond = latest(key, part, 0x18, 0x18, t);
            if (bond == null) {
                return 4;
            }
            if (bond.keyLasts != 0 && part.made + bond.keyLasts <= t) {
                return 2;
            }
            if (bond.uses < 0 || (bond.uses & 2) == 0) {
                return 5;
            }
            return isBacked(bond, key, part, t) ? 0 : 6;
        }

        /** Whether the seal inside a part's bond shows that the part itself wants to belong to the key. */
        boolean isBacked(Seal bond, Key key, Key part, long t) {
            inner.view(bond.row, bond.from + bond.innerAt, bond.innerSize);
            if (bond.innerAt < 0 || inner.read() != READ || inner.type != 0x19 || inner.vain || inner.made > t) {
                return false;
            }
            digestThing(inner, key, part);
            return isTrueBy(inner, part);
        }
    }

    private final Bytes bytes = new Bytes(MOST_BYTES);
    private final Bytes told = new Bytes(1024);
    private final Bytes clear = new Bytes(1024);
    private final Bytes packet = new Bytes(256);
    private final Span letter = new Span(new byte[0], 0, 0);
    private final Packets packets = new Packets();
    private final Signs signs = new Signs();
    private final Digest toldDigest = new Digest();
    private final Ring ring = new Ring();
    private final Judge judge = new Judge();
    private final Seal looked = new Seal(new byte[0]);
    private Bytes out = new Bytes(1024);
    private Bytes spare = new Bytes(1024);
    private int toldHash;
    private Key sealer;

    public SignetRing() {
    }

    public boolean add(long w, int n) {
        if (n < 1 || n > 8 || bytes.size + n > MOST_BYTES) {
            return false;
        }
        for (int i = 0; i < n; i++) {
            bytes.push((int) (w >>> 8 * i));
        }
        return true;
    }

    public int join() {
        int answer = openKeys();
        if (answer == 0) {
            answer = ring.joinAll(packets);
        }
        bytes.size = 0;
        return answer;
    }

    public int document() {
        told.size = 0;
        told.pushSpan(bytes, 0, bytes.size);
        toldHash = 0;
        bytes.size = 0;
        return told.size;
    }

    public int look(long t) throws IllegalArgumentException {
        if (!isTime(t)) {
            throw new IllegalArgumentException();
        }
        int answer = openLooked();
        if (answer == 0) {
            answer = checkLooked(t);
        }
        if (answer == 0 && sealer != null) {
            int state = judge.stateOf(sealer, t);
            answer = state == 0 ? 0 : 10 + state;
        }
        bytes.size = 0;
        return answer;
    }

    public int keys() {
        return ring.keys.size();
    }

    public long key(int k, int what) throws IndexOutOfBoundsException {
        Key key = found(k, -1);
        if (key == null || what < 0 || what > 5) {
            throw new IndexOutOfBoundsException();
        }
        switch (what) {
            case 0:
                return key.made;
            case 1:
                return key.bits;
            case 2:
                return key.users.size();
            case 3:
                return key.parts.size();
            case 4:
                return key.countSeals();
            default:
                return key.secret != null ? 1 : 0;
        }
    }

    public int print(int k, int part, int i) throws IndexOutOfBoundsException {
        Key key = found(k, part);
        if (key == null || i < 0 || i >= PRINT_SIZE) {
            throw new IndexOutOfBoundsException();
        }
        return key.print[i] & 255;
    }

    public int usable(int k, int part, long t) throws IndexOutOfBoundsException, IllegalArgumentException {
        Key asked = found(k, part);
        if (asked == null) {
            throw new IndexOutOfBoundsException();
        }
        if (!isTime(t)) {
            throw new IllegalArgumentException();
        }
        return judge.stateOf(asked, t);
    }

    public int seal(int k, int part, int form, long t)
        throws IndexOutOfBoundsException, IllegalArgumentException, IllegalStateException {
        Key by = found(k, part);
        if (by == null) {
            throw new IndexOutOfBoundsException();
        }
        if (!isTime(t) || form < 0 || form > 3) {
            throw new IllegalArgumentException();
        }
        if (by.secret == null) {
            throw new IllegalStateException();
        }
        out.size = 0;
        if (form == 3) {
            stripTold();
            makeSeal(by, 1, t, clear);
            writeClear();
        } else {
            makeSeal(by, form & 1, t, told);
            if (form == 2) {
                writeLetter(by);
            }
            out.pushPacket(SEAL, packet);
        }
        return out.size;
    }

    public int export(int k) throws IndexOutOfBoundsException {
        Key key = found(k, -1);
        if (key == null) {
            throw new IndexOutOfBoundsException();
        }
        out.size = 0;
        writePlace(key);
        for (int i = 0; i < key.users.size(); i++) {
            writePlace(key.users.get(i));
        }
        for (int i = 0; i < key.parts.size(); i++) {
            writePlace(key.parts.get(i));
        }
        return out.size;
    }

    public int armor(int label) throws IllegalArgumentException, UnsupportedOperationException {
        if (label < 0 || label > 2) {
            throw new IllegalArgumentException();
        }
        if (out.size > MOST_ARMORED) {
            throw new UnsupportedOperationException();
        }
        spare.size = 0;
        Signs.write(out, label, spare);
        Bytes made = spare;
        spare = out;
        out = made;
        return out.size;
    }

    public int out(int i) throws ArrayIndexOutOfBoundsException {
        if (i < 0 || i >= out.size) {
            throw new ArrayIndexOutOfBoundsException();
        }
        return out.at(i);
    }

    public int sum() {
        return Signs.sumOf(out);
    }

    public int take() {
        bytes.size = 0;
        bytes.pushSpan(out, 0, Math.min(out.size, MOST_BYTES));
        return bytes.size;
    }

    public int drop(int k) throws IndexOutOfBoundsException {
        if (k < 0 || k >= ring.keys.size()) {
            throw new IndexOutOfBoundsException();
        }
        ring.keys.remove(k);
        return ring.keys.size();
    }

    public int hash(int which, int i) throws IllegalArgumentException, IndexOutOfBoundsException {
        if (which != 1 && which != 2) {
            throw new IllegalArgumentException();
        }
        if (i < 0 || i >= (which == 1 ? 20 : 32)) {
            throw new IndexOutOfBoundsException();
        }
        if (toldHash != which) {
            toldDigest.make(which == 1 ? FIRST_HASH : SECOND_HASH, told);
            toldHash = which;
        }
        return toldDigest.at(i);
    }

    private static boolean isTime(long t) {
        return t >= 0 && t <= LAST_TIME;
    }

    /** A key (part -1) or a part of it, or null. */
    private Key found(int k, int part) {
        if (k < 0 || k >= ring.keys.size()) {
            return null;
        }
        Key key = ring.keys.get(k);
        if (part == -1) {
            return key;
        }
        return part >= 0 && part < key.parts.size() ? key.parts.get(part) : null;
    }

    private boolean isInSigns() {
        return bytes.size > 0 && bytes.at(0) < 128;
    }

    /** Opens the packets that are to be joined: 0, or a fault. */
    private int openKeys() {
        packets.open(bytes);
        return isInSigns() ? openSigns() : 0;
    }

    private int openSigns() {
        signs.open(bytes);
        signs.advance();
        int label = signs.begun();
        if (label < 0) {
            return signs.fault();
        }
        packets.open(signs.plain);
        return signs.read(label);
    }

    /** Reads what is to be looked at, the seal into looked, the document into letter: 0, or a fault. */
    private int openLooked() {
        letter.view(told.row, told.from, told.size);
        packets.open(bytes);
        if (!isInSigns()) {
            return readSealed();
        }
        signs.open(bytes);
        signs.advance();
        if (signs.isFramed(BEGIN, CLEAR)) {
            return readClear();
        }
        int fault = openSigns();
        return fault < 0 ? fault : readSealed();
    }

    private int readClear() {
        if (!signs.readText(clear)) {
            return signs.fault();
        }
        int fault = signs.read(SEAL_LABEL);
        if (fault < 0) {
            return fault;
        }
        letter.view(clear.row, clear.from, clear.size);
        packets.open(signs.plain);
        return packets.read() && readSeal() && looked.type == 1 ? readNothing() : packets.fault();
    }

    private int readSealed() {
        if (!packets.read()) {
            return packets.fault();
        }
        if (packets.kind != FRONT) {
            return readSeal() ? readNothing() : packets.fault();
        }
        Span front = packets.body;
        int type = front.at(1);
        int hash = front.at(2);
        if (front.size != 13 || front.at(0) != 3 || front.at(3) != 1 || front.at(12) != 1) {
            return packets.fault();
        }
        if (!packets.read() || !readLetter()) {
            return packets.fault();
        }
        boolean right = packets.read() && readSeal() && looked.type == type && looked.hash == hash;
        return right ? readNothing() : packets.fault();
    }

    private boolean readLetter() {
        Span body = packets.body;
        int form = body.at(0);
        int start = 6 + body.at(1);
        if (packets.kind != LETTER || form != 'b' && form != 't' && form != 'u' || body.size < start) {
            return false;
        }
        letter.view(body.row, body.from + start, body.size - start);
        return true;
    }

    private boolean readSeal() {
        Span body = packets.body;
        looked.view(body.row, body.from, body.size);
        return packets.kind == SEAL && looked.read() == READ && looked.type <= 1;
    }

    /** 0 where nothing stands behind the seal, else a fault. */
    private int readNothing() {
        return packets.more() ? -1 - packets.next : 0;
    }

    /** What the seal that is looked at comes to, before it is asked what its sealer is: 0 .. 4. */
    private int checkLooked(long t) {
        if (looked.vain || looked.nameAt < 0 && looked.printAt < 0) {
            return 1;
        }
        sealer = findSealer();
        if (sealer == null) {
            return 2;
        }
        judge.digestDocument(letter, looked.type, looked.hash, looked, looked.sealedEnd);
        if (!judge.isTrueBy(looked, sealer)) {
            return 3;
        }
        return looked.made > t || looked.hasEnded(t) ? 4 : 0;
    }

    private Key findSealer() {
        for (int i = 0; i < ring.keys.size(); i++) {
            Key key = ring.keys.get(i);
            if (hasSealed(key)) {
                return key;
            }
            for (int j = 0; j < key.parts.size(); j++) {
                if (hasSealed(key.parts.get(j))) {
                    return key.parts.get(j);
                }
            }
        }
        return null;
    }

    private boolean hasSealed(Key by) {
        return looked.printAt >= 0 ? by.hasPrint(looked, looked.printAt, 0)
            : by.hasPrint(looked, looked.nameAt, PRINT_SIZE - 8);
    }

    /** The document as it stands in clear text: without blanks at the ends of its lines. */
    private void stripTold() {
        clear.size = 0;
        int solid = 0;
        for (int i = 0; i < told.size; i++) {
            int b = told.at(i);
            if (b == 10) {
                clear.size = solid;
            }
            clear.push(b);
            if (!Signs.isBlank(b)) {
                solid = clear.size;
            }
        }
        clear.size = solid;
    }

    /** Makes a seal of a document, without the packet's head. */
    private void makeSeal(Key by, int type, long t, Span document) {
        Span secret = by.secret;
        if (secret == null) {
            return;
        }
        packet.size = 0;
        packet.push(4);
        packet.push(type);
        packet.push(1);
        packet.push(SECOND_HASH);
        packet.pushNumber(29, 2);
        packet.push(5);
        packet.push(2);
        packet.pushNumber(t, 4);
        packet.push(22);
        packet.push(33);
        packet.push(4);
        pushPrint(by, 0);
        judge.digestDocument(document, type, SECOND_HASH, packet, packet.size);
        packet.pushNumber(10, 2);
        packet.push(9);
        packet.push(16);
        pushPrint(by, PRINT_SIZE - 8);
        packet.push(judge.digest.at(0));
        packet.push(judge.digest.at(1));
        judge.writeNumber(by, secret, packet);
    }

    private void pushPrint(Key by, int skipped) {
        for (int i = Math.max(skipped, 0); i < PRINT_SIZE; i++) {
            packet.push(by.print[i]);
        }
    }

    private void writeLetter(Key by) {
        out.pushHead(FRONT, 13);
        out.push(3);
        out.push(0);
        out.push(SECOND_HASH);
        out.push(1);
        for (int i = PRINT_SIZE - 8; i < PRINT_SIZE; i++) {
            out.push(by.print[i]);
        }
        out.push(1);
        out.pushHead(LETTER, told.size + 6);
        out.push('b');
        out.push(0);
        out.pushNumber(0, 4);
        out.pushSpan(told, 0, told.size);
    }

    private void writeClear() {
        out.pushText(BEGIN);
        out.pushText(CLEAR);
        out.pushText(DASHES);
        out.push(10);
        out.pushText("Hash: SHA256");
        out.push(10);
        out.push(10);
        boolean first = true;
        for (int i = 0; i < clear.size; i++) {
            int b = clear.at(i);
            if (first && b == '-') {
                out.push('-');
                out.push(32);
            }
            out.push(b);
            first = b == 10;
        }
        out.push(10);
        spare.size = 0;
        spare.pushPacket(SEAL, packet);
        Signs.write(spare, SEAL_LABEL, out);
    }

    private void writePlace(Place place) {
        out.pushPacket(place.kind(), place);
        for (int i = 0; i < place.seals.size(); i++) {
            out.pushPacket(SEAL, place.seals.get(i));
        }
    }
}
