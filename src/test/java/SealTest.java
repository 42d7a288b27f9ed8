import java.math.BigInteger;

/** Promise 10 seal: what is made, to the byte, and that it is looked at as good. */
public final class SealTest {
    private static final Kit.Pair ADA = new Kit.Pair(512, 65537, 100, 1);
    private static final Kit.Pair SUB = new Kit.Pair(532, 17, 110, 2);
    private static final Kit.Pair BIG = new Kit.Pair(1024, 3, 0, 3);
    private static final String[] DOCUMENTS = {"", "x", "\n", "\n\n", "a\nb", "a\r\nb\n", " \t\r", "a \t\r\nb  \n\r", "-", "- ", "-a\n--\n - b",
        "-----BEGIN SEAL-----\n", "From\n\n-\n", "a\rb \u00ff\u0080\n\u0000", "x\u000b\n"};

    public static void main(String[] args) {
        wrongArguments();
        for (String document : DOCUMENTS) {
            forms(ADA, Kit.text(document), 0xfedcba98L);
        }
        forms(BIG, Kit.text("one\ntwo"), 0);
        forms(new Kit.Pair(497, 65537, 3, 4), Kit.text("one\ntwo"), 7);
        forms(new Kit.Pair(1023, 257, 3, 5), Kit.text("one\ntwo"), 0xffffffffL);
        forms(ADA, new byte[185], 5);
        forms(ADA, new byte[186], 5);
        parts();
        anySecrets();
        shortNumbers();
        Kit.done();
    }

    private static void wrongArguments() {
        SignetRing x = Kit.ring(ADA.key(), SUB.secretPart(), BIG.secretKey(), ADA.part());
        for (int bad : new int[] {-1, 2, Integer.MIN_VALUE, Integer.MAX_VALUE}) {
            Kit.due("seal(" + bad + ", -1, 0, 0)", () -> x.seal(bad, -1, 0, 0), Kit.INDEX);
            Kit.due("seal(" + bad + ", -1, 9, -1)", () -> x.seal(bad, -1, 9, -1), Kit.INDEX);
        }
        for (int bad : new int[] {-2, 1, Integer.MIN_VALUE, Integer.MAX_VALUE}) {
            Kit.due("seal(0, " + bad + ", 0, 0)", () -> x.seal(0, bad, 0, 0), Kit.INDEX);
        }
        for (int bad : new int[] {-1, 4, Integer.MIN_VALUE, Integer.MAX_VALUE}) {
            Kit.due("seal(1, -1, " + bad + ", 0)", () -> x.seal(1, -1, bad, 0), Kit.ARGUMENT);
            Kit.due("seal(0, -1, " + bad + ", 0)", () -> x.seal(0, -1, bad, 0), Kit.ARGUMENT);
        }
        for (long bad : new long[] {-1, 1L << 32, Long.MIN_VALUE, Long.MAX_VALUE}) {
            Kit.due("seal(1, -1, 0, " + bad + ")", () -> x.seal(1, -1, 0, bad), Kit.ARGUMENT);
            Kit.due("seal(0, -1, 0, " + bad + ")", () -> x.seal(0, -1, 0, bad), Kit.ARGUMENT);
        }
        Kit.due("no secret", () -> x.seal(0, -1, 0, 0), Kit.STATE);
        Kit.due("a part without a secret", () -> x.seal(1, 0, 3, 0), Kit.STATE);
        Kit.due("no out was made", () -> x.out(0), Kit.ARRAY);
        Kit.due("a part with a secret", () -> x.seal(0, 0, 0, 0) > 0 ? 1 : 0, 1);
    }

    private static void forms(Kit.Pair by, byte[] document, long t) {
        for (int form = 0; form < 4; form++) {
            int asked = form;
            SignetRing x = Kit.told(Kit.ring(by.secretKey()), document);
            byte[] want = Kit.made(by, form, document, t);
            Kit.due("seal of form " + form, () -> x.seal(0, -1, asked, t), want.length);
            Kit.outIs("seal of form " + form, x, want);
            if (want.length <= 4096) {
                Kit.due("take", x::take, want.length);
                Kit.due("it is true", () -> x.look(0xffffffffL), 14);
            }
            Kit.due("the document stays", () -> x.hash(2, 0), Kit.hash(8, document)[0] & 255);
            Kit.due("the key stays without a bond", () -> x.key(0, 4), 0);
        }
    }

    private static void parts() {
        for (int form = 0; form < 4; form++) {
            int asked = form;
            SignetRing x = Kit.told(Kit.ring(BIG.key(), ADA.key(), BIG.secretPart(), SUB.secretPart()), Kit.text("part"));
            byte[] want = Kit.made(SUB, form, Kit.text("part"), 9);
            Kit.due("seal of form " + form + " by a part", () -> x.seal(1, 1, asked, 9), want.length);
            Kit.outIs("seal of form " + form + " by a part", x, want);
        }
    }

    /** d is what the secret says, be it right or not. */
    private static void anySecrets() {
        BigInteger one = BigInteger.ONE;
        BigInteger[] ds = {BigInteger.ZERO, one, BigInteger.TWO, ADA.n, ADA.n.subtract(one), BigInteger.TWO.pow(511),
            BigInteger.TWO.pow(512).subtract(one)};
        for (BigInteger d : ds) {
            SignetRing x = Kit.told(Kit.ring(Kit.packet(5, Kit.secretOf(ADA.open, d, one, one, one))), Kit.text("any"));
            Kit.Making making = Kit.making(ADA, 0, 5);
            BigInteger s = new BigInteger(1, making.frame(64, Kit.text("any"))).modPow(d, ADA.n);
            byte[] want = Kit.packet(2, making.body(Kit.text("any"), s));
            Kit.due("seal with d " + d.bitLength(), () -> x.seal(0, -1, 0, 5), want.length);
            Kit.outIs("seal with d " + d.bitLength(), x, want);
        }
    }

    /** Numbers s of fewer bits than n come, by chance, with one of many times. */
    private static void shortNumbers() {
        int shorter = 0;
        for (long t = 0; t < 600; t++) {
            long asked = t;
            byte[] want = Kit.made(ADA, 0, new byte[0], t);
            if (want.length < 117) {
                shorter++;
                SignetRing x = Kit.ring(ADA.secretKey());
                Kit.due("a short number", () -> x.seal(0, -1, 0, asked), want.length);
                Kit.outIs("a short number", x, want);
                x.take();
                Kit.due("it is true", () -> x.look(0xffffffffL), 14);
            }
        }
        int found = shorter;
        Kit.due("some were short", () -> found > 0 ? 1 : 0, 1);
    }
}
