import java.io.ByteArrayOutputStream;
import java.math.BigInteger;
import java.nio.charset.StandardCharsets;
import java.security.MessageDigest;
import java.security.NoSuchAlgorithmException;
import java.util.Base64;
import java.util.Random;

/** What the tests share: calls and their answers, and keys, seals and signs made by the Java library. */
final class Kit {
    static final int[] FRONT_FIRST = {48, 33, 48, 9, 6, 5, 43, 14, 3, 2, 26, 5, 0, 4, 20};
    static final int[] FRONT_SECOND = {48, 49, 48, 13, 6, 9, 96, 134, 72, 1, 101, 3, 4, 2, 1, 5, 0, 4, 32};
    static final String INDEX = "throws.IndexOutOfBoundsException";
    static final String ARRAY = "throws.ArrayIndexOutOfBoundsException";
    static final String ARGUMENT = "throws.IllegalArgumentException";
    static final String STATE = "throws.IllegalStateException";
    static final String UNSUPPORTED = "throws.UnsupportedOperationException";

    private static int asked;
    private static int wrong;

    private Kit() {
    }

    interface Call {
        long answer();
    }

    /** A call's answer, or throws. and the exception's name; what the machine throws bears a text. */
    static String ask(Call call) {
        try {
            return Long.toString(call.answer());
        } catch (RuntimeException e) {
            return "throws." + e.getClass().getSimpleName() + (e.getMessage() == null ? "" : " by the machine");
        }
    }

    static void due(String what, Call call, String want) {
        same(what, ask(call), want);
    }

    static void due(String what, Call call, long want) {
        same(what, ask(call), Long.toString(want));
    }

    static void same(String what, String got, String want) {
        asked++;
        if (!got.equals(want)) {
            wrong++;
            System.out.println(what + " answered " + got + ", due is " + want);
        }
    }

    static void done() {
        System.out.println(asked - wrong + " answers of " + asked + " are as due");
        if (wrong != 0) {
            System.exit(1);
        }
    }

    // bytes

    static byte[] text(String text) {
        return text.getBytes(StandardCharsets.ISO_8859_1);
    }

    static byte[] row(int... values) {
        byte[] row = new byte[values.length];
        for (int i = 0; i < values.length; i++) {
            row[i] = (byte) values[i];
        }
        return row;
    }

    static byte[] cat(byte[]... rows) {
        ByteArrayOutputStream out = new ByteArrayOutputStream();
        for (byte[] row : rows) {
            out.writeBytes(row);
        }
        return out.toByteArray();
    }

    static byte[] cut(byte[] row, int from, int to) {
        return java.util.Arrays.copyOfRange(row, from, to);
    }

    static byte[] with(byte[] row, int place, int value) {
        byte[] copy = row.clone();
        copy[place] = (byte) value;
        return copy;
    }

    static byte[] big(long value, int width) {
        byte[] row = new byte[width];
        for (int i = 0; i < width; i++) {
            row[i] = (byte) (value >>> 8 * (width - 1 - i));
        }
        return row;
    }

    static byte[] number(BigInteger value) {
        return cat(big(value.bitLength(), 2), inBytes(value, (value.bitLength() + 7) / 8));
    }

    static byte[] inBytes(BigInteger value, int count) {
        byte[] row = new byte[count];
        for (int i = 0; i < count; i++) {
            row[count - 1 - i] = value.shiftRight(8 * i).byteValue();
        }
        return row;
    }

    static byte[] length(int n) {
        if (n < 192) {
            return row(n);
        }
        return n < 8384 ? row(192 + (n - 192) / 256, (n - 192) % 256) : cat(row(255), big(n, 4));
    }

    static byte[] packet(int kind, byte[] body) {
        return cat(row(192 | kind), length(body.length), body);
    }

    static byte[] note(int kind, byte[] says) {
        return cat(length(1 + says.length), row(kind), says);
    }

    static byte[] note(int kind, int... says) {
        return note(kind, row(says));
    }

    static byte[] hash(int which, byte[] of) {
        try {
            return MessageDigest.getInstance(which == 2 ? "SHA-1" : "SHA-256").digest(of);
        } catch (NoSuchAlgorithmException e) {
            throw new IllegalStateException(e);
        }
    }

    static int sum(byte[] of) {
        int v = 0xb704ce;
        for (byte b : of) {
            v ^= (b & 255) << 16;
            for (int i = 0; i < 8; i++) {
                v = (v & 0x800000) != 0 ? v << 1 ^ 0x1864cfb : v << 1;
            }
        }
        return v;
    }

    static byte[] signs(String label, byte[] of) {
        Base64.Encoder lines = Base64.getMimeEncoder(64, row(10));
        String body = lines.encodeToString(of);
        String sum = Base64.getEncoder().encodeToString(big(sum(of), 3));
        return text("-----BEGIN " + label + "-----\n\n" + body + (body.isEmpty() ? "" : "\n") + "=" + sum
            + "\n-----END " + label + "-----\n");
    }

    // calls

    static SignetRing feed(SignetRing x, byte[] bytes) {
        for (int i = 0; i < bytes.length; i += 8) {
            int n = Math.min(8, bytes.length - i);
            long w = 0;
            for (int j = n - 1; j >= 0; j--) {
                w = w << 8 | bytes[i + j] & 255;
            }
            due("add of " + n, asLong(x.add(w, n)), 1);
        }
        return x;
    }

    static Call asLong(boolean b) {
        return () -> b ? 1 : 0;
    }

    static long join(SignetRing x, byte[]... packets) {
        return feed(x, cat(packets)).join();
    }

    static long look(SignetRing x, long t, byte[]... packets) {
        return feed(x, cat(packets)).look(t);
    }

    static SignetRing ring(byte[]... packets) {
        SignetRing x = new SignetRing();
        long read = join(x, packets);
        due("join of a ring", () -> read > 0 ? 1 : read, 1);
        return x;
    }

    static SignetRing told(SignetRing x, byte[] document) {
        due("document", () -> feed(x, document).document(), document.length);
        return x;
    }

    /** Some thirty bytes of the out, its end, and its sum: to ask for all would be too many calls on one object. */
    static void outIs(String what, SignetRing x, byte[] want) {
        for (int i = 0; i < want.length; i += 1 + want.length / 32) {
            int place = i;
            due(what + ", out(" + i + ")", () -> x.out(place), want[i] & 255);
        }
        due(what + ", out behind its end", () -> x.out(want.length), ARRAY);
        due(what + ", sum", x::sum, sum(want));
    }

    // keys

    static final class Pair {
        final BigInteger n;
        final BigInteger e;
        final BigInteger d;
        final byte[] open;
        final byte[] secret;
        final byte[] print;

        Pair(int bits, long e, long made, int seed) {
            this.e = BigInteger.valueOf(e);
            Random random = new Random(seed);
            BigInteger p = BigInteger.ONE;
            BigInteger q = BigInteger.ONE;
            BigInteger around = BigInteger.ONE;
            while (p.multiply(q).bitLength() != bits || !around.gcd(this.e).equals(BigInteger.ONE)) {
                p = BigInteger.probablePrime(bits / 2, random);
                q = BigInteger.probablePrime(bits - bits / 2, random);
                around = p.subtract(BigInteger.ONE).multiply(q.subtract(BigInteger.ONE));
            }
            n = p.multiply(q);
            d = this.e.modInverse(around);
            open = cat(row(4), big(made, 4), row(1), number(n), number(this.e));
            secret = secretOf(open, d, p, q, p.modInverse(q));
            print = hash(2, cat(row(0x99), big(open.length, 2), open));
        }

        byte[] name() {
            return cut(print, 12, 20);
        }

        byte[] key() {
            return packet(6, open);
        }

        byte[] secretKey() {
            return packet(5, secret);
        }

        byte[] part() {
            return packet(14, open);
        }

        byte[] secretPart() {
            return packet(7, secret);
        }

        byte[] sealed() {
            return cat(row(0x99), big(open.length, 2), open);
        }
    }

    static byte[] secretOf(byte[] open, BigInteger... numbers) {
        byte[] all = new byte[0];
        for (BigInteger number : numbers) {
            all = cat(all, number(number));
        }
        int sum = 0;
        for (byte b : all) {
            sum += b & 255;
        }
        return cat(open, row(0), all, big(sum, 2));
    }

    static byte[] user(String name) {
        return packet(13, text(name));
    }

    static byte[] thing(Pair key) {
        return key.sealed();
    }

    static byte[] thing(Pair key, String user) {
        return cat(key.sealed(), row(0xb4), big(user.length(), 4), text(user));
    }

    static byte[] thing(Pair key, Pair part) {
        return cat(key.sealed(), part.sealed());
    }

    /** A document whose lines end with 13, 10. */
    static byte[] lines(byte[] document) {
        return text(new String(document, StandardCharsets.ISO_8859_1).replaceAll("(?<!\r)\n", "\r\n"));
    }

    // seals

    /** A seal in the making: notes are told, then it is made by a key. */
    static final class Making {
        private final int type;
        private int hash = 8;
        private byte[] sealed = {};
        private byte[] others = {};

        Making(int type) {
            this.type = type;
        }

        Making(int type, long made) {
            this(type);
            sealed(note(2, big(made, 4)));
        }

        Making first() {
            hash = 2;
            return this;
        }

        Making sealed(byte[] note) {
            sealed = cat(sealed, note);
            return this;
        }

        Making other(byte[] note) {
            others = cat(others, note);
            return this;
        }

        Making lasts(long seconds) {
            return sealed(note(3, big(seconds, 4)));
        }

        Making keyLasts(long seconds) {
            return sealed(note(9, big(seconds, 4)));
        }

        Making uses(int what) {
            return sealed(note(27, what));
        }

        Making why(int why) {
            return sealed(note(29, why));
        }

        Making named(Pair by) {
            return other(note(16, by.name()));
        }

        Making printed(Pair by) {
            return sealed(note(33, cat(row(4), by.print)));
        }

        byte[] head() {
            return cat(row(4, type, 1, hash), big(sealed.length, 2), sealed);
        }

        byte[] digest(byte[] thing) {
            return Kit.hash(hash, cat(thing, head(), row(4, 255), big(head().length, 4)));
        }

        byte[] frame(int size, byte[] thing) {
            byte[] digest = digest(thing);
            byte[] front = row(hash == 2 ? FRONT_FIRST : FRONT_SECOND);
            byte[] filler = new byte[size - 3 - front.length - digest.length];
            java.util.Arrays.fill(filler, (byte) 255);
            return cat(row(0, 1), filler, row(0), front, digest);
        }

        /** The seal's bytes, with a number that may be any. */
        byte[] body(byte[] thing, BigInteger s) {
            return cat(head(), big(others.length, 2), others, cut(digest(thing), 0, 2), number(s));
        }

        byte[] body(Pair by, byte[] thing) {
            byte[] frame = frame((by.n.bitLength() + 7) / 8, thing);
            return body(thing, new BigInteger(1, frame).modPow(by.d, by.n));
        }

        byte[] by(Pair by, byte[] thing) {
            return packet(2, body(by, thing));
        }
    }

    static Making seal(int type, long made) {
        return new Making(type, made);
    }

    static Making making(Pair by, int type, long t) {
        return seal(type, t).printed(by).named(by);
    }

    /** What promise 10 makes of a document. */
    static byte[] made(Pair by, int form, byte[] document, long t) {
        if (form == 0) {
            return making(by, 0, t).by(by, document);
        }
        if (form == 1) {
            return making(by, 1, t).by(by, lines(document));
        }
        if (form == 2) {
            byte[] front = packet(4, cat(row(3, 0, 8, 1), by.name(), row(1)));
            byte[] letter = packet(11, cat(row('b', 0, 0, 0, 0, 0), document));
            return cat(front, letter, made(by, 0, document, t));
        }
        StringBuilder text = new StringBuilder("-----BEGIN SEALED TEXT-----\nHash: SHA256\n\n");
        for (String line : new String(document, StandardCharsets.ISO_8859_1).split("\n", -1)) {
            String stripped = line.replaceAll("[\t\r ]+\\z", "");
            text.append(stripped.startsWith("-") ? "- " : "").append(stripped).append('\n');
        }
        return cat(text(text.toString()), signs("SEAL", made(by, 1, strip(document), t)));
    }

    /** A document without blanks at the ends of its lines. */
    static byte[] strip(byte[] document) {
        String text = new String(document, StandardCharsets.ISO_8859_1);
        return text(text.replaceAll("[\t\r ]+(?=\n|\\z)", ""));
    }

    /** A seal that no key made: what it is kept by is its number alone. */
    static byte[] idle(int number) {
        return packet(2, cat(row(4, 0x10, 1, 8, 0, 0, 0, 0), big(number, 2), row(0, 0)));
    }
}
