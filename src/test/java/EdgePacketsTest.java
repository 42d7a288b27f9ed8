import java.math.BigInteger;
import java.util.Arrays;

/** Edges of packets, numbers, keys and secrets: promise 3 join, and what promise 11 export makes of them. */
public final class EdgePacketsTest {
    private static final byte[] BODY = Run.anyKey(7);
    private static final byte[] KEY = Kit.packet(6, BODY);
    private static final int BEHIND = -1 - KEY.length;
    private static final BigInteger ONE = BigInteger.ONE;
    private static final BigInteger TWO = BigInteger.TWO;
    private static final byte[] E = Kit.number(BigInteger.valueOf(3));
    private static final byte[] N = Kit.number(TWO.pow(496).add(ONE));

    public static void main(String[] args) {
        firstByte();
        bit128();
        oneByteLengths();
        twoByteLengths();
        fourByteLengths();
        partLengths();
        oldLengths();
        halfLengths();
        oldKinds();
        numberBits();
        numberBytes();
        keyBytes();
        bitsOfN();
        bitsOfE();
        oddNumbers();
        secretBytes();
        bitsOfD();
        otherNumbers();
        secretSum();
        exportLengths();
        Kit.done();
    }

    /** A packet behind a key: right, or a fault at its place. */
    private static void behindKey(String sentence, boolean right, byte[]... packet) {
        new Run(sentence).join(right ? 1 : BEHIND, KEY, Kit.cat(packet)).keys(right ? 1 : 0);
    }

    private static void keyIs(String sentence, boolean right, int kind, byte[] body) {
        new Run(sentence).join(right ? 1 : -1, Kit.packet(kind, body)).keys(right ? 1 : 0);
        int part = kind == 6 ? 14 : 7;
        new Run(sentence + " (a part)").join(right ? 1 : BEHIND, KEY, Kit.packet(part, body)).keys(right ? 1 : 0);
    }

    private static void firstByte() {
        for (int first : new int[] {0, 10, 45, 127}) {
            new Run("a byte below 128 is read as signs").join(-100000, Kit.row(first)).keys(0);
            new Run("a byte below 128 is read as signs").look(-100000, 5, Kit.row(first));
        }
        for (int first : new int[] {128, 192, 198, 255}) {
            new Run("else as packets").join(-1, Kit.row(first)).keys(0);
            new Run("else as packets").look(-1, 5, Kit.row(first));
        }
        new Run("no bytes are packets without any").join(-1).look(-1, 5);
    }

    private static void bit128() {
        for (int head : new int[] {0, 40, 64 | 40, 127}) {
            behindKey("a byte with the bit 128", false, Kit.row(head, 0));
        }
        behindKey("a byte with the bit 128", true, Kit.row(192 | 40, 0));
        behindKey("a byte with the bit 128", true, Kit.row(255, 0));
        behindKey("a byte with the bit 128", true, Kit.row(128 | 10 << 2, 0));
    }

    private static void whole(String sentence, byte[] head, int size) {
        behindKey(sentence + " of " + size, true, head, new byte[size]);
        behindKey(sentence + " of " + size + ", not all there", size == 0, head, new byte[Math.max(0, size - 1)]);
        if (size > 0) {
            behindKey(sentence + " of " + size + ", none there", false, head);
        }
        byte[] next = Kit.row(192 | 1, 0);
        new Run(sentence + " of " + size + ", then another packet").join(BEHIND - head.length - size, KEY, head, new byte[size], next);
    }

    private static void oneByteLengths() {
        for (int size : new int[] {0, 1, 127, 128, 190, 191}) {
            whole("a byte below 192", Kit.row(192 | 40, size), size);
        }
    }

    private static void twoByteLengths() {
        whole("(a - 192) 256 + b + 192", Kit.row(192 | 40, 192, 0), 192);
        whole("(a - 192) 256 + b + 192", Kit.row(192 | 40, 192, 1), 193);
        whole("(a - 192) 256 + b + 192", Kit.row(192 | 40, 192, 255), 447);
        whole("(a - 192) 256 + b + 192", Kit.row(192 | 40, 193, 0), 448);
        whole("(a - 192) 256 + b + 192", Kit.row(192 | 40, 205, 7), 13 * 256 + 7 + 192);
        behindKey("a below 224, more than can be there", false, Kit.row(192 | 40, 223, 255), new byte[3900]);
    }

    private static void fourByteLengths() {
        for (int size : new int[] {0, 1, 191, 192, 255, 256, 300}) {
            whole("255: four bytes", Kit.cat(Kit.row(192 | 40, 255), Kit.big(size, 4)), size);
        }
        for (long size : new long[] {4097, 65536, 1 << 24, 0x7ffffff0L, 0x7fffffffL, 0x80000000L, 0x80000001L, 0xffffffffL}) {
            behindKey("four bytes, more than can be there", false, Kit.row(192 | 40, 255), Kit.big(size, 4), new byte[9]);
            behindKey("four bytes, more than can be there", false, Kit.row(128 | 10 << 2 | 2), Kit.big(size, 4), new byte[9]);
        }
    }

    private static void partLengths() {
        for (int first = 224; first <= 254; first++) {
            for (int kind : new int[] {2, 13, 40, 63}) {
                behindKey("224 .. 254, of kind 11 alone", false, Kit.row(192 | kind, first), new byte[16]);
            }
        }
        for (int kind = 0; kind < 64; kind++) {
            behindKey("224, of kind 11 alone", false, Kit.row(192 | kind, 224, 1, 0));
        }
        behindKey("kind 11 in parts may not be there", false, Kit.row(192 | 11, 224, 1, 0));
    }

    private static void oldLengths() {
        for (int size : new int[] {0, 1, 191, 192, 223, 224, 255}) {
            whole("without the bit 64, one byte", Kit.row(128 | 10 << 2, size), size);
        }
        for (int size : new int[] {0, 1, 255, 256, 300}) {
            whole("without the bit 64, two bytes", Kit.cat(Kit.row(128 | 10 << 2 | 1), Kit.big(size, 2)), size);
            whole("without the bit 64, four bytes", Kit.cat(Kit.row(128 | 10 << 2 | 2), Kit.big(size, 4)), size);
        }
        behindKey("without the bit 64, two bytes, more than can be there", false, Kit.row(128 | 10 << 2 | 1, 255, 255), new byte[9]);
        for (int size = 0; size < 9; size++) {
            behindKey("without the bit 64, 3 is wrong", false, Kit.row(128 | 10 << 2 | 3), new byte[size]);
        }
    }

    private static void halfLengths() {
        byte[][] heads = {Kit.row(192 | 40, 0), Kit.row(192 | 40, 192, 0), Kit.row(192 | 40, 255, 0, 0, 0, 0), Kit.row(128 | 10 << 2, 0),
            Kit.row(128 | 10 << 2 | 1, 0, 0), Kit.row(128 | 10 << 2 | 2, 0, 0, 0, 0)};
        for (byte[] head : heads) {
            byte[] body = new byte[head.length == 3 && head[0] == (byte) (192 | 40) ? 192 : 0];
            behindKey("a length that is all there", true, head, body);
            for (int i = 1; i < head.length; i++) {
                behindKey("a length that is not all there", false, Kit.cut(head, 0, i));
            }
        }
    }

    private static void oldKinds() {
        for (int kind = 0; kind < 16; kind++) {
            boolean right = kind == 10 || kind == 12 || kind == 13;
            behindKey("bits 2 to 5 are the kind " + kind, right, Kit.row(128 | kind << 2, 0));
        }
        for (int kind = 0; kind < 64; kind++) {
            boolean right = kind == 10 || kind == 12 || kind == 13 || kind == 17 || kind >= 40;
            behindKey("the lowest six are the kind " + kind, right, Kit.row(192 | kind, 0));
        }
    }

    private static byte[] sealWith(byte[] number) {
        return Kit.packet(2, Kit.cat(Kit.row(4, 0x10, 1, 8, 0, 0, 0, 0, 1, 2), number));
    }

    private static void numberBits() {
        for (int bits = 1; bits <= 40; bits++) {
            BigInteger lowest = TWO.pow(bits - 1);
            BigInteger highest = TWO.pow(bits).subtract(ONE);
            int count = (bits + 7) / 8;
            byte[] told = Kit.big(bits, 2);
            behindKey("a number of " + bits + " bits", true, sealWith(Kit.number(lowest)));
            behindKey("a number of " + bits + " bits", true, sealWith(Kit.number(highest)));
            byte[] fewer = Kit.inBytes(lowest.subtract(ONE), count);
            behindKey("a number of a bit fewer than " + bits, false, sealWith(Kit.cat(told, fewer)));
            byte[] more = Kit.inBytes(highest.add(ONE), (bits + 8) / 8);
            behindKey("a number of a bit more than " + bits, false, sealWith(Kit.cat(told, more)));
        }
        behindKey("a number of 0 bits has no bytes", true, sealWith(Kit.row(0, 0)));
        behindKey("a number of 0 bits has no bytes", false, sealWith(Kit.row(0, 0, 0)));
        behindKey("a number of 0 bits has no bytes", false, sealWith(Kit.row(0, 0, 1)));
        behindKey("a first byte that is 0", false, sealWith(Kit.row(0, 9, 0, 255)));
        behindKey("a first byte that is 0", false, sealWith(Kit.row(0, 8, 0)));
    }

    private static void numberBytes() {
        for (int bits : new int[] {1, 8, 9, 16, 17, 255, 256, 257, 8000, 24000}) {
            byte[] number = Kit.number(TWO.pow(bits - 1));
            behindKey("so many bytes as " + bits + " bits need", true, sealWith(number));
            behindKey("a byte fewer than " + bits + " bits need", false, sealWith(Kit.cut(number, 0, number.length - 1)));
            behindKey("a byte more than " + bits + " bits need", false, sealWith(Kit.cat(number, Kit.row(0))));
        }
        behindKey("half a count of bits", false, sealWith(Kit.row(0)));
        behindKey("no count of bits", false, sealWith(Kit.row()));
        behindKey("65535 bits", false, sealWith(Kit.cat(Kit.row(255, 255, 64), new byte[99])));
    }

    private static void keyBytes() {
        keyIs("a key", true, 6, BODY);
        for (int size = 0; size < BODY.length; size++) {
            keyIs("a key that has only " + size + " bytes", false, 6, Kit.cut(BODY, 0, size));
        }
        keyIs("nothing may stand behind", false, 6, Kit.cat(BODY, Kit.row(0)));
        keyIs("nothing may stand behind", false, 6, Run.anySecret(BODY));
        for (int value = 0; value < 256; value++) {
            keyIs("a key begins with 4", value == 4, 6, Kit.with(BODY, 0, value));
            keyIs("1 stands behind when it was made", value == 1, 6, Kit.with(BODY, 5, value));
        }
        keyIs("made at 0", true, 6, Run.anyKey(0));
        keyIs("made at 2^32 - 1", true, 6, Run.anyKey(0xffffffffL));
    }

    private static byte[] keyOf(byte[] n, byte[] e) {
        return Kit.cat(Kit.row(4, 0, 0, 0, 7, 1), n, e);
    }

    private static void bitsOfN() {
        for (int bits : new int[] {0, 1, 8, 495, 496, 497, 498, 504, 505, 1016, 1017, 1023, 1024, 1025, 1026, 1032, 2048}) {
            boolean right = bits >= 497 && bits <= 1024;
            BigInteger highest = TWO.pow(bits).subtract(ONE);
            keyIs("n of " + bits + " bits (497 to 1024)", right, 6, keyOf(Kit.number(highest), E));
            if (bits > 1) {
                keyIs("n of " + bits + " bits (497 to 1024)", right, 6, keyOf(Kit.number(TWO.pow(bits - 1).add(ONE)), E));
            }
            if (right) {
                byte[] key = Kit.packet(6, keyOf(Kit.number(highest), E));
                new Run("how many bits n has").join(1, key).key(bits, 0, 1);
            }
        }
    }

    private static void bitsOfE() {
        for (int bits : new int[] {0, 1, 2, 3, 8, 9, 31, 32, 33, 40, 64}) {
            boolean right = bits >= 2 && bits <= 32;
            keyIs("e of " + bits + " bits (2 to 32)", right, 6, keyOf(N, Kit.number(TWO.pow(bits).subtract(ONE))));
            if (bits > 2) {
                keyIs("e of " + bits + " bits (2 to 32)", right, 6, keyOf(N, Kit.number(TWO.pow(bits - 1).add(ONE))));
            }
        }
    }

    private static void oddNumbers() {
        for (int bits : new int[] {497, 504, 505, 1024}) {
            BigInteger odd = TWO.pow(bits).subtract(ONE);
            keyIs("an odd n", true, 6, keyOf(Kit.number(odd), E));
            keyIs("an even n", false, 6, keyOf(Kit.number(odd.subtract(ONE)), E));
        }
        for (long e : new long[] {2, 4, 6, 256, 65536, 0xfffffffeL}) {
            keyIs("an even e", false, 6, keyOf(N, Kit.number(BigInteger.valueOf(e))));
            if (e > 2) {
                keyIs("an odd e", true, 6, keyOf(N, Kit.number(BigInteger.valueOf(e + 1))));
            }
        }
    }

    private static byte[] secretOf(BigInteger... numbers) {
        return Kit.secretOf(BODY, numbers);
    }

    private static void secretBytes() {
        byte[] secret = Run.anySecret(BODY);
        keyIs("a secret", true, 5, secret);
        for (int size = 0; size < secret.length; size++) {
            keyIs("a secret key that has only " + size + " bytes", false, 5, Kit.cut(secret, 0, size));
        }
        keyIs("nothing may stand behind the sum", false, 5, Kit.cat(secret, Kit.row(0)));
        for (int value = 1; value < 256; value++) {
            keyIs("then 0", false, 5, Kit.with(secret, BODY.length, value));
        }
        keyIs("four numbers, not three", false, 5, secretOf(ONE, ONE, ONE));
        keyIs("four numbers, not five", false, 5, secretOf(ONE, ONE, ONE, ONE, ONE));
        new Run("with a secret").join(1, Kit.packet(5, secret)).key(1, 0, 5);
        new Run("without one").join(1, KEY).key(0, 0, 5);
    }

    private static void bitsOfD() {
        for (int bits : new int[] {0, 1, 2, 496, 497, 498, 504, 505, 1024}) {
            boolean right = bits <= 497;
            keyIs("d of " + bits + " bits, n of 497", right, 5, secretOf(TWO.pow(bits).subtract(ONE), ONE, ONE, ONE));
        }
        byte[] big = keyOf(Kit.number(TWO.pow(1024).subtract(ONE)), E);
        for (int bits : new int[] {1023, 1024, 1025}) {
            BigInteger d = TWO.pow(bits).subtract(ONE);
            keyIs("d of " + bits + " bits, n of 1024", bits <= 1024, 5, Kit.secretOf(big, d, ONE, ONE, ONE));
        }
    }

    private static void otherNumbers() {
        for (int bits : new int[] {0, 1, 497, 498, 1025, 4000}) {
            BigInteger any = TWO.pow(bits).subtract(ONE);
            for (int i = 1; i < 4; i++) {
                BigInteger[] numbers = {ONE, ONE, ONE, ONE};
                numbers[i] = any;
                keyIs("the others as they are, of " + bits + " bits", true, 5, secretOf(numbers));
            }
        }
        byte[] spoilt = Kit.cat(BODY, Kit.row(0, 0, 1, 1, 0, 1, 2, 0, 1, 1, 0, 1, 1), Kit.big(9, 2));
        keyIs("the others are numbers", false, 5, spoilt);
    }

    private static void secretSum() {
        for (int sum : new int[] {65534, 65535, 65536, 65537, 65538}) {
            byte[] numbers = numbersOf(sum);
            keyIs("a sum of " + sum + " modulo 65536", true, 5, Kit.cat(BODY, Kit.row(0), numbers, Kit.big(sum & 0xffff, 2)));
            keyIs("one more than " + sum, false, 5, Kit.cat(BODY, Kit.row(0), numbers, Kit.big(sum + 1 & 0xffff, 2)));
            keyIs("one less than " + sum, false, 5, Kit.cat(BODY, Kit.row(0), numbers, Kit.big(sum - 1 & 0xffff, 2)));
            keyIs("256 more than " + sum, false, 5, Kit.cat(BODY, Kit.row(0), numbers, Kit.big(sum + 256 & 0xffff, 2)));
        }
        byte[] secret = Run.anySecret(BODY);
        keyIs("their counts of bits too", false, 5, Kit.with(secret, secret.length - 1, 4));
        keyIs("their counts of bits too", true, 5, Kit.with(secret, secret.length - 1, 8));
    }

    /** Four numbers whose bytes, with their counts, come to just this sum. */
    private static byte[] numbersOf(int sum) {
        byte[] most = new byte[254];
        Arrays.fill(most, (byte) 255);
        byte[] longest = Kit.cat(Kit.big(8 * 254, 2), most);
        byte[] ones = Kit.cat(Kit.number(ONE), longest, Kit.number(ONE));
        int left = sum;
        for (byte b : ones) {
            left -= b & 255;
        }
        // the last number has 3 bytes, the first of which is 255: its count is 24
        left -= 24 + 255;
        int second = Math.min(left, 255);
        return Kit.cat(ones, Kit.row(0, 24, 255, second, left - second));
    }

    private static void exportLengths() {
        for (int size : new int[] {0, 1, 190, 191, 192, 193, 199, 200}) {
            byte[] name = new byte[size];
            Arrays.fill(name, (byte) 'u');
            byte[] want = Kit.cat(KEY, Kit.packet(13, name));
            byte[] four = Kit.cat(Kit.row(192 | 13, 255), Kit.big(size, 4), name);
            byte[] old = Kit.cat(Kit.row(128 | 13 << 2 | 1), Kit.big(size, 2), name);
            new Run("11: the shortest lengths, a user of " + size).join(1, KEY, four).export(want.length, 0).outIs(want);
            new Run("11: with the bit 64, a user of " + size).join(1, KEY, old).export(want.length, 0).outIs(want);
        }
        for (int size : new int[] {12, 190, 191, 192, 193, 447, 448, 1500}) {
            byte[] zero = new byte[size - 10];
            byte[] number = size == 12 ? Kit.row(0, 0) : Kit.cat(Kit.big(8 * (size - 12), 2), Kit.with(Kit.cut(zero, 2, zero.length), 0, 128));
            byte[] body = Kit.cat(Kit.row(4, 0x10, 1, 8, 0, 0, 0, 0, 1, 2), number);
            byte[] want = Kit.cat(KEY, Kit.packet(2, body));
            byte[] four = Kit.cat(Kit.row(192 | 2, 255), Kit.big(size, 4), body);
            new Run("11: the shortest lengths, a seal of " + size).join(1, KEY, four).export(want.length, 0).outIs(want);
        }
        byte[] secret = Run.anySecret(BODY);
        new Run("11: without secrets").join(1, Kit.packet(5, secret), Kit.packet(7, secret))
            .export(2 * KEY.length, 0).outIs(Kit.cat(KEY, Kit.packet(14, BODY))).key(1, 0, 5);
        new Run("11: a key alone").join(1, KEY).export(KEY.length, 0).outIs(KEY);
        Run x = new Run("11: another k").join(1, KEY);
        for (int bad : new int[] {-1, 1, 16, Integer.MIN_VALUE, Integer.MAX_VALUE}) {
            x.export(Kit.INDEX, bad);
        }
        x.out(Kit.ARRAY, 0);
    }
}
