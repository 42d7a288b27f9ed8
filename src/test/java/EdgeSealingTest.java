import java.math.BigInteger;
import java.util.Arrays;

/** Edges of what is sealed: promise 10 seal. */
public final class EdgeSealingTest {
    private static final long LAST = 0xffffffffL;
    private static final Kit.Pair ADA = new Kit.Pair(497, 3, 1000, 1);
    private static final Kit.Pair SUB = new Kit.Pair(505, 5, 1100, 3);
    private static final Kit.Pair BIG = new Kit.Pair(1024, 65537, 0, 4);
    private static final byte[] TEXT = Kit.text("one\ntwo ");

    public static void main(String[] args) {
        whichKey();
        whichForm();
        whichTime();
        noSecret();
        emptyDocuments();
        sizesOfLetters();
        fullDocuments();
        clearText();
        secretsOfManySizes();
        shortNumbers();
        sizesOfN();
        namesWhatSeals();
        whatStays();
        Kit.done();
    }

    private static void sealIs(Run x, Kit.Pair by, int k, int part, int form, long t, byte[] document) {
        byte[] want = Kit.made(by, form, document, t);
        x.seal(want.length, k, part, form, t).outIs(want);
    }

    /** All forms, to the byte; and what was made is true, though the key has no bond. */
    private static void allForms(String sentence, Kit.Pair by, byte[] document, long t) {
        for (int form = 0; form < 4; form++) {
            Run x = new Run(sentence + ", form " + form).join(1, by.secretKey()).document(document);
            sealIs(x, by, 0, -1, form, t, document);
            int size = Kit.made(by, form, document, t).length;
            if (size <= 4096) {
                x.take(size).look(14, LAST);
            }
        }
    }

    private static void whichKey() {
        Run x = new Run("10: a key, or part").join(2, ADA.secretKey(), SUB.secretPart(), SUB.secretKey());
        sealIs(x, ADA, 0, -1, 0, 5, new byte[0]);
        sealIs(x, SUB, 0, 0, 0, 5, new byte[0]);
        sealIs(x, SUB, 1, -1, 0, 5, new byte[0]);
        for (int bad : new int[] {-1, 2, 16, Integer.MIN_VALUE, Integer.MAX_VALUE}) {
            x.seal(Kit.INDEX, bad, -1, 0, 5).seal(Kit.INDEX, bad, 0, 0, 5);
        }
        for (int bad : new int[] {-2, 1, 8, Integer.MIN_VALUE, Integer.MAX_VALUE}) {
            x.seal(Kit.INDEX, 0, bad, 0, 5);
        }
        x.seal(Kit.INDEX, 1, 0, 0, 5);
    }

    private static void whichForm() {
        Run x = new Run("10: form 0 .. 3").join(1, ADA.secretKey()).document(TEXT);
        for (int form = 0; form < 4; form++) {
            sealIs(x, ADA, 0, -1, form, 5, TEXT);
        }
        for (int bad : new int[] {-1, 4, 5, Integer.MIN_VALUE, Integer.MAX_VALUE}) {
            x.seal(Kit.ARGUMENT, 0, -1, bad, 5);
        }
    }

    private static void whichTime() {
        for (long t : new long[] {0, 1, 999, 1000, 0x7fffffffL, 0x80000000L, LAST - 1, LAST}) {
            allForms("10: a time " + t, ADA, TEXT, t);
        }
        Run x = new Run("10: no time").join(1, ADA.secretKey());
        for (long t : new long[] {-1, LAST + 1, LAST + 6, Long.MIN_VALUE, Long.MAX_VALUE}) {
            for (int form = 0; form < 4; form++) {
                x.seal(Kit.ARGUMENT, 0, -1, form, t);
            }
        }
    }

    private static void noSecret() {
        Run x = new Run("10: when it has no secret").join(1, ADA.key(), SUB.secretPart(), BIG.part());
        x.seal(Kit.STATE, 0, -1, 0, 5).seal(Kit.STATE, 0, 1, 0, 5);
        sealIs(x, SUB, 0, 0, 0, 5, new byte[0]);
        x.join(1, ADA.secretKey());
        sealIs(x, ADA, 0, -1, 0, 5, new byte[0]);
    }

    private static void emptyDocuments() {
        allForms("an empty document", ADA, new byte[0], 5);
        for (int form = 0; form < 4; form++) {
            Run x = new Run("no document was told").join(1, ADA.secretKey());
            sealIs(x, ADA, 0, -1, form, 5, new byte[0]);
        }
        allForms("a document of one byte", ADA, Kit.row(0), 5);
        allForms("a document of one 10", ADA, Kit.row(10), 5);
        allForms("a document of one blank", ADA, Kit.row(32), 5);
    }

    private static void sizesOfLetters() {
        for (int size : new int[] {184, 185, 186, 187, 440, 441, 442, 1000}) {
            byte[] document = new byte[size];
            Arrays.fill(document, (byte) 'x');
            allForms("a letter of " + (size + 6) + " bytes, the shortest length", ADA, document, 5);
        }
    }

    private static void fullDocuments() {
        for (int size : new int[] {4095, 4096}) {
            for (int form = 0; form < 4; form++) {
                Run x = new Run("a document of " + size + ", form " + form).maker();
                byte[] document = x.makeOut(size);
                x.join(1, ADA.secretKey()).take(size).documentIs(size);
                sealIs(x, ADA, 1, -1, form, 5, document);
            }
        }
        byte[] taken = new byte[3600];
        Arrays.fill(taken, (byte) 10);
        for (int form = 0; form < 4; form++) {
            Run x = new Run("a document of empty lines, form " + form).join(1, Kit.packet(5, Run.anySecret(ADA.open))).document(taken);
            x.seal(form == 3 ? 42 + 3601 + Kit.signs("SEAL", new byte[115]).length : form == 2 ? 15 + 3 + 6 + 3600 + 115 : 115, 0, -1, form, 5);
        }
    }

    private static void clearText() {
        String[] documents = {"", "\n", "\n\n", " ", "\t\r ", " \n", "\n ", "a", "a\n", "a\nb", "a \nb\t\n\r", "a\r\nb\r\n", "\r\n", " a", "\ta\n b", "a b",
            "a\rb", "-", "-\n", "--", "- ", "- a", "-\n-\n-", " -", "a-", "\n-", "- \n-\t", "-----BEGIN SEAL-----", "-----BEGIN SEALED TEXT-----\n\n",
            "-----END SEAL-----", "\u000b", "a\u000b", "a\u000c\n", "\u0000\n\u00ff", "a\u00a0", "a\u0085\n", "a: b", "=twTO"};
        for (String document : documents) {
            allForms("clear text", ADA, Kit.text(document), 5);
        }
    }

    private static void secretsOfManySizes() {
        BigInteger one = BigInteger.ONE;
        BigInteger top = BigInteger.TWO.pow(496);
        BigInteger[] secrets = {BigInteger.ZERO, one, BigInteger.TWO, BigInteger.valueOf(3), BigInteger.valueOf(127), BigInteger.valueOf(128),
            BigInteger.valueOf(255), BigInteger.valueOf(256), top.subtract(one), top, ADA.n.subtract(one), ADA.n, ADA.n.add(one),
            top.shiftLeft(1).subtract(one)};
        for (BigInteger d : secrets) {
            byte[] key = Kit.packet(5, Kit.secretOf(ADA.open, d, one, one, one));
            Kit.Making making = Kit.making(ADA, 0, 5);
            BigInteger s = new BigInteger(1, making.frame(63, TEXT)).modPow(d, ADA.n);
            byte[] want = Kit.packet(2, making.body(TEXT, s));
            new Run("d of " + d.bitLength() + " bits").join(1, key).document(TEXT).seal(want.length, 0, -1, 0, 5).outIs(want);
        }
    }

    /** s has as many bits as it has: numbers of fewer bytes come, by chance, with one of many times. */
    private static void shortNumbers() {
        int found = 0;
        for (long t = 0; t < 2000 && found < 3; t++) {
            byte[] want = Kit.made(BIG, 0, TEXT, t);
            if (want.length < Kit.made(BIG, 0, TEXT, 0).length) {
                found++;
                Run x = new Run("a short number").join(1, BIG.secretKey()).document(TEXT);
                sealIs(x, BIG, 0, -1, 0, t, TEXT);
                x.take(want.length).look(14, LAST);
            }
        }
        String some = found > 0 ? "some" : "none";
        Kit.same("short numbers", some, "some");
    }

    private static void sizesOfN() {
        for (int bits : new int[] {497, 504, 505, 512, 1016, 1017, 1023, 1024}) {
            allForms("n of " + bits + " bits", new Kit.Pair(bits, 65537, 7, bits + 1), TEXT, 5);
        }
    }

    private static void namesWhatSeals() {
        Run x = new Run("the name of what seals").join(1, ADA.key(), SUB.secretPart()).document(TEXT);
        for (int form = 0; form < 4; form++) {
            sealIs(x, SUB, 0, 0, form, 5, TEXT);
        }
    }

    private static void whatStays() {
        for (int form = 0; form < 4; form++) {
            Run x = new Run("nothing but the out changes").join(1, ADA.secretKey()).document(TEXT).bytes(Run.BYTES);
            sealIs(x, ADA, 0, -1, form, 5, TEXT);
            x.documentHas(TEXT).keys(1).keyIs(0, 0, 0, 0, 1);
            sealIs(x, ADA, 0, -1, form, 5, TEXT);
            x.bytesAre(Run.BYTES);
        }
    }
}
