import java.math.BigInteger;

/** Promises 3 join, 6 keys, 7 key, 8 print, 11 export, 16 drop: packets in plain bytes. */
public final class JoinTest {
    private static final Kit.Pair ADA = new Kit.Pair(512, 65537, 1000, 1);
    private static final Kit.Pair BO = new Kit.Pair(528, 17, 0xfffffffeL, 2);
    private static final Kit.Pair CY = new Kit.Pair(497, 3, 0, 3);
    private static final Kit.Pair DI = new Kit.Pair(1024, 4294967291L, 5, 4);

    public static void main(String[] args) {
        askedOfKeys();
        lengths();
        kinds();
        wrongKeys();
        wrongSecrets();
        wrongSeals();
        passedSeals();
        joined();
        undone();
        roomForKeys();
        roomAtAKey();
        roomForSeals();
        export();
        longExport();
        drop();
        Kit.done();
    }

    private static void joinIs(String what, long want, byte[]... packets) {
        SignetRing x = new SignetRing();
        Kit.due(what, () -> Kit.join(x, packets), want);
        Kit.due(what + ": keys", x::keys, want > 0 ? 1 : 0);
    }

    private static void keyIs(SignetRing x, int k, long... want) {
        for (int what = 0; what < want.length; what++) {
            int asked = what;
            Kit.due("key(" + k + ", " + what + ")", () -> x.key(k, asked), want[what]);
        }
    }

    private static void askedOfKeys() {
        byte[] user = Kit.user("Ada");
        SignetRing x = Kit.ring(ADA.secretKey(), Kit.idle(1), user, Kit.idle(1), Kit.idle(2), CY.secretPart(),
            Kit.idle(3), DI.part(), BO.key(), user, Kit.user("Bo"));
        Kit.due("keys", x::keys, 2);
        keyIs(x, 0, 1000, 512, 1, 2, 4, 1);
        keyIs(x, 1, 0xfffffffeL, 528, 2, 0, 0, 0);
        for (int i = 0; i < 20; i++) {
            int place = i;
            Kit.due("print of a key", () -> x.print(0, -1, place), ADA.print[i] & 255);
            Kit.due("print of a part", () -> x.print(0, 1, place), DI.print[i] & 255);
            Kit.due("print of the other key", () -> x.print(1, -1, place), BO.print[i] & 255);
        }
        for (int bad : new int[] {-1, 2, 16, Integer.MIN_VALUE, Integer.MAX_VALUE}) {
            Kit.due("key(" + bad + ", 0)", () -> x.key(bad, 0), Kit.INDEX);
            Kit.due("print(" + bad + ", -1, 0)", () -> x.print(bad, -1, 0), Kit.INDEX);
            Kit.due("export(" + bad + ")", () -> x.export(bad), Kit.INDEX);
            Kit.due("drop(" + bad + ")", () -> x.drop(bad), Kit.INDEX);
        }
        for (int bad : new int[] {-1, 6, Integer.MIN_VALUE, Integer.MAX_VALUE}) {
            Kit.due("key(0, " + bad + ")", () -> x.key(0, bad), Kit.INDEX);
        }
        for (int bad : new int[] {-2, 2, Integer.MIN_VALUE, Integer.MAX_VALUE}) {
            Kit.due("print(0, " + bad + ", 0)", () -> x.print(0, bad, 0), Kit.INDEX);
        }
        for (int bad : new int[] {-1, 20, Integer.MIN_VALUE, Integer.MAX_VALUE}) {
            Kit.due("print(0, 0, " + bad + ")", () -> x.print(0, 0, bad), Kit.INDEX);
        }
        Kit.due("a part of a key without any", () -> x.print(1, 0, 0), Kit.INDEX);
        Kit.due("keys stay", x::keys, 2);
    }

    private static void lengths() {
        byte[] body = ADA.open;
        int size = body.length;
        joinIs("one byte", 1, Kit.row(198, size), body);
        joinIs("four bytes", 1, Kit.row(198, 255, 0, 0, 0, size), body);
        joinIs("old, one byte", 1, Kit.row(128 | 6 << 2, size), body);
        joinIs("old, two bytes", 1, Kit.row(128 | 6 << 2 | 1, 0, size), body);
        joinIs("old, four bytes", 1, Kit.row(128 | 6 << 2 | 2, 0, 0, 0, size), body);
        joinIs("old, none", -1, Kit.row(128 | 6 << 2 | 3), body);
        joinIs("old, eight bytes", -1, Kit.row(128 | 6 << 2 | 3, 0, 0, 0, 0, 0, 0, 0, size), body);
        joinIs("two bytes", 1, Kit.packet(5, ADA.secret));
        joinIs("not all there", -1, Kit.row(198, size), Kit.cut(body, 0, size - 1));
        joinIs("no length", -1, Kit.row(198));
        joinIs("half a length", -1, Kit.row(198, 192));
        joinIs("most of a length", -1, Kit.row(198, 255, 0, 0, 0));
        joinIs("old, half a length", -1, Kit.row(128 | 6 << 2 | 1, 0));
        joinIs("a huge length", -1, Kit.row(198, 255, 255, 255, 255, 255), body);
        joinIs("old, a huge length", -1, Kit.row(128 | 6 << 2 | 2, 255, 255, 255, 255), body);
        joinIs("a part", -1, Kit.row(198, 224 + 6), Kit.cut(body, 0, 64), Kit.row(size - 64), Kit.cut(body, 64, size));
        joinIs("a part's length", -80, ADA.key(), Kit.row(192 | 13, 224, 0, 0, 0, 1, 5));
        joinIs("no bit 128", -1 - 79, ADA.key(), Kit.row(70, 0));
        joinIs("of a passed kind, not all there", -1 - 79, ADA.key(), Kit.row(192 | 40, 1));
        byte[] middle = new byte[300];
        joinIs("two bytes of a passed kind", 1, ADA.key(), Kit.packet(63, middle));
        joinIs("two bytes, one too few", -1 - 79, ADA.key(), Kit.row(192 | 63, 192, 108), Kit.cut(middle, 0, 299));
    }

    private static void kinds() {
        for (int kind = 0; kind < 64; kind++) {
            boolean passed = kind == 10 || kind == 12 || kind == 17 || kind >= 40;
            byte[] packet = Kit.packet(kind, Kit.row(1));
            joinIs("kind " + kind + " behind a key", passed || kind == 13 || kind == 2 ? 1 : -80, ADA.key(), packet);
            joinIs("kind " + kind + " before a key", passed ? 1 : -1, packet, ADA.key());
            joinIs("kind " + kind + " alone", passed ? -4 : -1, packet);
        }
        joinIs("nothing", -1);
        joinIs("a seal before the first key", -1, Kit.idle(1), ADA.key());
        joinIs("a part before the first key", -1, BO.part(), ADA.key());
        joinIs("a secret part before the first key", -1, BO.secretPart(), ADA.key());
    }

    private static void wrongKeys() {
        byte[] body = ADA.open;
        byte[] n = Kit.number(ADA.n);
        byte[] e = Kit.number(ADA.e);
        byte[] front = Kit.cut(body, 0, 6);
        BigInteger two = BigInteger.TWO;
        joinIs("another version", -1, Kit.packet(6, Kit.with(body, 0, 3)));
        joinIs("another 1", -1, Kit.packet(6, Kit.with(body, 5, 2)));
        joinIs("a byte behind", -1, Kit.packet(6, Kit.cat(body, Kit.row(0))));
        joinIs("a secret behind", -1, Kit.packet(6, ADA.secret));
        joinIs("no secret", -1, Kit.packet(5, body));
        joinIs("an even n", -1, Kit.packet(6, Kit.cat(front, Kit.number(ADA.n.add(BigInteger.ONE)), e)));
        joinIs("too many bits told", -1, Kit.packet(6, Kit.cat(front, Kit.with(n, 0, 3), e)));
        joinIs("a bit too few told", -1, Kit.packet(6, Kit.cat(front, Kit.big(511, 2), Kit.cut(n, 2, 66), e)));
        joinIs("a first byte of 0", -1, Kit.packet(6, Kit.cat(front, Kit.big(520, 2), Kit.row(0), Kit.cut(n, 2, 66), e)));
        for (int bits : new int[] {496, 497, 1024, 1025}) {
            BigInteger odd = two.pow(bits - 1).add(BigInteger.ONE);
            boolean right = bits >= 497 && bits <= 1024;
            joinIs("n of " + bits + " bits", right ? 1 : -1, Kit.packet(6, Kit.cat(front, Kit.number(odd), e)));
        }
        for (long exponent : new long[] {0, 1, 2, 3, 4, 0xffffffffL, 0xfffffffeL, 0x100000001L}) {
            boolean right = exponent == 3 || exponent == 0xffffffffL;
            byte[] number = Kit.number(BigInteger.valueOf(exponent));
            joinIs("e of " + exponent, right ? 1 : -1, Kit.packet(6, Kit.cat(front, n, number)));
        }
        for (int i = 0; i < body.length; i++) {
            joinIs("a key of " + i + " bytes", -1, Kit.packet(6, Kit.cut(body, 0, i)));
        }
        joinIs("a wrong part", -80, ADA.key(), Kit.packet(14, Kit.with(BO.open, 0, 3)));
    }

    private static void wrongSecrets() {
        BigInteger one = BigInteger.ONE;
        BigInteger big = BigInteger.TWO.pow(511);
        joinIs("any numbers", 1, Kit.packet(5, Kit.secretOf(ADA.open, one, big.pow(2), one, BigInteger.ZERO)));
        joinIs("d of no bits", 1, Kit.packet(5, Kit.secretOf(ADA.open, BigInteger.ZERO, one, one, one)));
        joinIs("d of n's bits", 1, Kit.packet(5, Kit.secretOf(ADA.open, ADA.n.add(one), one, one, one)));
        joinIs("d of more bits than n", -1, Kit.packet(5, Kit.secretOf(ADA.open, big.shiftLeft(1), one, one, one)));
        joinIs("three numbers", -1, Kit.packet(5, Kit.secretOf(ADA.open, one, one, one)));
        joinIs("five numbers", -1, Kit.packet(5, Kit.secretOf(ADA.open, one, one, one, one, one)));
        byte[] secret = ADA.secret;
        joinIs("no 0", -1, Kit.packet(5, Kit.with(secret, ADA.open.length, 1)));
        joinIs("another sum", -1, Kit.packet(5, Kit.with(secret, secret.length - 1, secret[secret.length - 1] + 1)));
        joinIs("another high sum", -1, Kit.packet(5, Kit.with(secret, secret.length - 2, secret[secret.length - 2] + 1)));
        joinIs("a byte behind", -1, Kit.packet(5, Kit.cat(secret, Kit.row(0))));
        for (int i = ADA.open.length; i < secret.length; i += 7) {
            joinIs("a secret key of " + i + " bytes", -1, Kit.packet(5, Kit.cut(secret, 0, i)));
        }
        BigInteger many = BigInteger.TWO.pow(8 * 300).subtract(one);
        joinIs("a sum above 65535", 1, Kit.packet(5, Kit.secretOf(ADA.open, one, many, one, one)));
    }

    private static void sealIs(String what, boolean right, byte[] body) {
        joinIs("a seal with " + what, right ? 1 : -80, ADA.key(), Kit.packet(2, body));
        joinIs("a seal with " + what + ", then a seal", right ? 1 : -80, ADA.key(), Kit.packet(2, body), Kit.idle(9));
    }

    private static byte[] noted(byte[] sealed, byte[] others) {
        return Kit.cat(Kit.row(4, 0x10, 1, 8), Kit.big(sealed.length, 2), sealed, Kit.big(others.length, 2), others,
            Kit.row(1, 2, 0, 1, 1));
    }

    private static void noteIs(String what, boolean right, byte[] note) {
        sealIs(what + " (sealed)", right, noted(note, new byte[0]));
        sealIs(what + " (not sealed)", right, noted(new byte[0], note));
        sealIs(what + " (behind another)", right, noted(Kit.cat(Kit.note(2, 1, 2, 3, 4), note), new byte[0]));
    }

    private static void wrongSeals() {
        byte[] whole = Kit.seal(0x10, 5).named(ADA).body(ADA, Kit.thing(ADA));
        sealIs("all", true, whole);
        for (int i = 0; i < whole.length; i++) {
            sealIs(i + " bytes", false, Kit.cut(whole, 0, i));
        }
        sealIs("a byte behind", false, Kit.cat(whole, Kit.row(0)));
        sealIs("a 0 as number", true, Kit.cut(Kit.idle(1), 2, 14));
        sealIs("a number of wrong bits", false, Kit.cat(Kit.cut(Kit.idle(1), 2, 12), Kit.row(0, 2, 1)));
        noteIs("a note of length 0", false, Kit.row(0));
        noteIs("a note that is too long", false, Kit.row(2, 5));
        noteIs("half a length", false, Kit.row(192));
        noteIs("a part's length", false, Kit.row(224, 5));
        noteIs("a part's length", false, Kit.row(224, 0, 0, 0, 1, 5));
        noteIs("a part's length", false, Kit.row(254, 0, 0, 0, 5, 5));
        noteIs("a length of four bytes", true, Kit.row(255, 0, 0, 0, 1, 5));
        noteIs("a huge length", false, Kit.row(255, 255, 255, 255, 255, 5));
        noteIs("a length of two bytes", true, Kit.note(5, new byte[200]));
        for (int count = 0; count < 24; count++) {
            byte[] says = new byte[count];
            for (int kind : new int[] {2, 3, 9}) {
                noteIs("note " + kind + " of " + count, count == 4, Kit.note(kind, says));
            }
            noteIs("note 16 of " + count, count == 8, Kit.note(16, says));
            noteIs("note 27 of " + count, count > 0, Kit.note(27, says));
            noteIs("note 29 of " + count, count > 0, Kit.note(29 | 128, says));
            noteIs("note 32 of " + count, true, Kit.note(32, says));
            noteIs("note 33 of " + count, false, Kit.note(33, says));
            noteIs("note 100 of " + count, true, Kit.note(100, says));
            if (count > 0) {
                noteIs("note 33 of 4 and " + count, count == 21, Kit.note(33, Kit.with(says, 0, 4)));
            }
        }
    }

    private static void passedSeals() {
        byte[][] passed = {Kit.row(3), Kit.row(5, 1, 1, 8), Kit.row(0), Kit.row(4, 0, 2, 8), Kit.row(4, 0, 1, 3),
            Kit.row(4, 0, 1, 9, 1, 2, 3), Kit.row(4, 0, 0, 2, 1, 2, 3)};
        for (byte[] body : passed) {
            SignetRing x = Kit.ring(ADA.key(), Kit.packet(2, body));
            Kit.due("a seal that is passed", () -> x.key(0, 4), 0);
        }
        byte[][] wrong = {Kit.row(), Kit.row(4), Kit.row(4, 0), Kit.row(4, 0, 2), Kit.row(4, 0, 1, 8)};
        for (byte[] body : wrong) {
            joinIs("a seal that is wrong", -80, ADA.key(), Kit.packet(2, body));
        }
    }

    private static void joined() {
        SignetRing x = Kit.ring(ADA.key(), Kit.idle(1), Kit.user("a"), Kit.idle(1), CY.part(), Kit.idle(1));
        keyIs(x, 0, 1000, 512, 1, 1, 3, 0);
        Kit.due("another key comes behind", () -> Kit.join(x, BO.key()), 1);
        Kit.due("the first one again", () -> Kit.join(x, ADA.key(), Kit.idle(1), CY.part(), Kit.idle(1), Kit.idle(2),
            Kit.user("b"), Kit.idle(1), Kit.user("a"), Kit.idle(3)), 1);
        Kit.due("keys", x::keys, 2);
        keyIs(x, 0, 1000, 512, 2, 1, 6, 0);
        Kit.due("its secret", () -> Kit.join(x, ADA.secretKey()), 1);
        keyIs(x, 0, 1000, 512, 2, 1, 6, 1);
        Kit.due("a part has none", () -> x.seal(0, 0, 0, 0), Kit.STATE);
        Kit.due("a part's secret", () -> Kit.join(x, ADA.key(), CY.secretPart()), 1);
        Kit.due("a part has one", () -> x.seal(0, 0, 0, 0) > 0 ? 1 : 0, 1);
        Kit.due("other secrets", () -> Kit.join(x, Kit.packet(5, Kit.secretOf(ADA.open, BigInteger.ZERO, BigInteger.ZERO,
            BigInteger.ZERO, BigInteger.ZERO))), 1);
        Kit.told(x, Kit.text("d"));
        Kit.due("seal", () -> x.seal(0, -1, 0, 5), 117);
        x.take();
        Kit.due("the first secret stays", () -> x.look(2000), 14);
        Kit.due("two keys, and one of them twice", () -> Kit.join(x, BO.key(), ADA.key(), BO.key(), Kit.idle(7)), 3);
        keyIs(x, 1, 0xfffffffeL, 528, 0, 0, 1, 0);
        Kit.due("a part that is also a key", () -> Kit.join(x, ADA.key(), BO.part(), ADA.part(), BO.part()), 1);
        keyIs(x, 0, 1000, 512, 2, 3, 6, 1);
        Kit.due("a user of no bytes", () -> Kit.join(x, ADA.key(), Kit.user(""), Kit.user("")), 1);
        keyIs(x, 0, 1000, 512, 3, 3, 6, 1);
    }

    private static void undone() {
        SignetRing x = Kit.ring(ADA.key(), Kit.idle(1), Kit.user("a"), Kit.idle(1), CY.part(), Kit.idle(1));
        byte[] before = Kit.cat(ADA.key(), Kit.idle(1), Kit.user("a"), Kit.idle(1), CY.part(), Kit.idle(1));
        byte[] more = Kit.cat(ADA.secretKey(), Kit.idle(2), Kit.user("a"), Kit.idle(2), Kit.user("b"), Kit.idle(2),
            CY.secretPart(), Kit.idle(2), BO.part(), Kit.idle(2), DI.key(), Kit.idle(1));
        Kit.due("a fault at the end", () -> Kit.join(x, more, Kit.row(1)), -1 - more.length);
        Kit.due("keys", x::keys, 1);
        keyIs(x, 0, 1000, 512, 1, 1, 3, 0);
        Kit.due("no secret", () -> x.seal(0, -1, 0, 0), Kit.STATE);
        Kit.due("no secret of the part", () -> x.seal(0, 0, 0, 0), Kit.STATE);
        Kit.due("export", () -> x.export(0), before.length);
        Kit.outIs("export", x, before);
        Kit.due("the bytes were taken", x::document, 0);
        SignetRing y = Kit.ring(before);
        Kit.due("without the fault", () -> Kit.join(y, more), 2);
        keyIs(y, 0, 1000, 512, 2, 2, 8, 1);
        keyIs(y, 1, 5, 1024, 0, 0, 1, 0);
        Kit.due("a fault again", () -> Kit.join(y, CY.key(), ADA.key(), Kit.idle(3), Kit.row(192)),
            -1 - CY.key().length - ADA.key().length - 14);
        Kit.due("keys", y::keys, 2);
        keyIs(y, 0, 1000, 512, 2, 2, 8, 1);
    }

    private static byte[] anyKey(int kind, int made) {
        return Kit.packet(kind, Kit.cat(Kit.row(4), Kit.big(made, 4), Kit.cut(ADA.open, 5, ADA.open.length)));
    }

    private static void roomForKeys() {
        SignetRing x = new SignetRing();
        for (int i = 0; i < 16; i++) {
            int made = i;
            Kit.due("key " + i, () -> Kit.join(x, anyKey(6, made)), 1);
        }
        Kit.due("a key too many", () -> Kit.join(x, anyKey(6, 3), anyKey(6, 16), anyKey(6, 4)), -80);
        Kit.due("keys", x::keys, 16);
        Kit.due("a key that is there", () -> Kit.join(x, anyKey(6, 15), Kit.user("u"), anyKey(6, 0)), 2);
        Kit.due("drop", () -> x.drop(7), 15);
        Kit.due("room again", () -> Kit.join(x, anyKey(6, 16)), 1);
        Kit.due("where it came", () -> x.key(15, 0), 16);
        Kit.due("a key too many", () -> Kit.join(x, anyKey(6, 17)), -1);
    }

    private static void roomAtAKey() {
        SignetRing x = Kit.ring(ADA.key());
        for (int i = 0; i < 8; i++) {
            int made = i;
            Kit.due("part " + i, () -> Kit.join(x, ADA.key(), anyKey(14, made)), 1);
            Kit.due("user " + i, () -> Kit.join(x, ADA.key(), Kit.user("u" + made)), 1);
        }
        Kit.due("a part too many", () -> Kit.join(x, ADA.key(), anyKey(14, 7), anyKey(14, 8)), -1 - 158);
        Kit.due("a user too many", () -> Kit.join(x, ADA.key(), Kit.user("u7"), Kit.user("v")), -1 - 79 - 4);
        keyIs(x, 0, 1000, 512, 8, 8, 0, 0);
        byte[] longest = new byte[200];
        joinIs("a user of 200 bytes", 1, ADA.key(), Kit.packet(13, longest));
        joinIs("a user of 201 bytes", -80, ADA.key(), Kit.packet(13, new byte[201]), Kit.user("a"));
    }

    private static void roomForSeals() {
        byte[][] places = {new byte[0], Kit.user("u"), BO.part()};
        for (byte[] place : places) {
            SignetRing x = Kit.ring(ADA.key());
            for (int i = 0; i < 16; i++) {
                int number = i;
                Kit.due("seal " + i, () -> Kit.join(x, ADA.key(), place, Kit.idle(number)), 1);
            }
            long behind = ADA.key().length + place.length + 14;
            Kit.due("a seal too many", () -> Kit.join(x, ADA.key(), place, Kit.idle(3), Kit.idle(16)), -1 - behind);
            Kit.due("seals that are there", () -> Kit.join(x, ADA.key(), place, Kit.idle(3), Kit.idle(4),
                Kit.packet(2, Kit.row(3))), 1);
            Kit.due("seals", () -> x.key(0, 4), 16);
        }
    }

    private static void export() {
        byte[] old = Kit.cat(Kit.row(128 | 2 << 2 | 1, 0, 12), Kit.cut(Kit.idle(6), 2, 14));
        SignetRing x = Kit.ring(BO.key(), ADA.secretKey(), Kit.user("a"), CY.secretPart(), Kit.idle(2), Kit.user("b"), old,
            DI.part(), Kit.user("a"), Kit.idle(5), Kit.idle(4), ADA.key(), Kit.idle(8), Kit.packet(12, Kit.row(1)));
        byte[] want = Kit.cat(ADA.key(), Kit.idle(8), Kit.user("a"), Kit.idle(5), Kit.idle(4), Kit.user("b"), Kit.idle(6),
            CY.part(), Kit.idle(2), DI.part());
        Kit.due("export", () -> x.export(1), want.length);
        Kit.outIs("export", x, want);
        SignetRing y = new SignetRing();
        Kit.due("what was exported is joined", () -> Kit.join(y, want), 1);
        Kit.due("and exported", () -> y.export(0), want.length);
        Kit.outIs("and exported", y, want);
        Kit.due("export of another", () -> x.export(0), BO.key().length);
        Kit.outIs("export of another", x, BO.key());
        Kit.due("export of none", () -> x.export(2), Kit.INDEX);
        Kit.outIs("the out stays", x, BO.key());
    }

    /** A seal whose last bytes differ: with a head of so many bytes that its length takes two. */
    private static byte[] longSeal(int size, int last) {
        return Kit.packet(2, Kit.cat(Kit.row(4, 0x10, 1, 8), Kit.big(size + 4, 2), Kit.note(100, new byte[size + 1]),
            Kit.row(0, 0, 0, last, 0, 0)));
    }

    private static void longExport() {
        byte[] want = Kit.cat(ADA.key(), longSeal(1800, 0), longSeal(900, 1));
        SignetRing x = Kit.ring(want);
        Kit.due("export", () -> x.export(0), want.length);
        Kit.outIs("export", x, want);
        Kit.due("take", x::take, want.length);
        Kit.due("what was exported is joined", x::join, 1);
        Kit.due("seals", () -> x.key(0, 4), 2);
    }

    private static void drop() {
        SignetRing x = Kit.ring(ADA.key(), BO.key(), CY.key());
        Kit.due("drop", () -> x.drop(1), 2);
        keyIs(x, 0, 1000, 512);
        keyIs(x, 1, 0, 497);
        Kit.due("drop", () -> x.drop(0), 1);
        keyIs(x, 0, 0, 497);
        Kit.due("drop", () -> x.drop(1), Kit.INDEX);
        Kit.due("drop", () -> x.drop(0), 0);
        Kit.due("drop", () -> x.drop(0), Kit.INDEX);
        Kit.due("keys", x::keys, 0);
        Kit.due("join", () -> Kit.join(x, BO.key()), 1);
    }
}
