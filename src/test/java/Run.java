import java.math.BigInteger;

/**
 * Calls on one new object, each with the answer that is due, all for one sentence of the document.
 * They are counted, because nothing is promised about an object after its 512th call.
 */
final class Run {
    private static final int MOST_CALLS = 512;
    /** A key whose secret is 1: its seals have the same size always, and it takes few calls to tell it. */
    private static final byte[] MAKER = anyKey(0);
    private static final byte[] MAKER_PRINT = Kit.hash(2, Kit.cat(Kit.row(0x99), Kit.big(MAKER.length, 2), MAKER));
    private static final int SEAL_SIZE = 115;

    private final SignetRing x = new SignetRing();
    private final String sentence;
    private int calls;

    Run(String sentence) {
        this.sentence = sentence;
    }

    /** The bytes of a key of 497 bits; keys that were made at other times are other ones. */
    static byte[] anyKey(long made) {
        BigInteger n = BigInteger.TWO.pow(496).add(BigInteger.ONE);
        return Kit.cat(Kit.row(4), Kit.big(made, 4), Kit.row(1), Kit.number(n), Kit.number(BigInteger.valueOf(3)));
    }

    static byte[] anySecret(byte[] key) {
        BigInteger one = BigInteger.ONE;
        return Kit.secretOf(key, one, one, one, one);
    }

    private Run due(String call, Object want, Kit.Call asked) {
        calls++;
        Kit.same(sentence + ": " + call, Kit.ask(asked), String.valueOf(want));
        if (calls == MOST_CALLS + 1) {
            Kit.same(sentence + ": calls", "more than " + MOST_CALLS, "no more");
        }
        return this;
    }

    // the calls of the face: first what is due, a number or what is thrown

    Run add(Object want, long w, int n) {
        return due("add(" + w + ", " + n + ")", want, () -> x.add(w, n) ? 1 : 0);
    }

    Run bytes(byte[]... rows) {
        byte[] all = Kit.cat(rows);
        for (int i = 0; i < all.length; i += 8) {
            long w = 0;
            for (int j = Math.min(i + 8, all.length) - 1; j >= i; j--) {
                w = w << 8 | all[j] & 255;
            }
            add(1, w, Math.min(8, all.length - i));
        }
        return this;
    }

    Run join(Object want, byte[]... rows) {
        return bytes(rows).due("join()", want, x::join);
    }

    Run document(byte[]... rows) {
        return bytes(rows).documentIs(Kit.cat(rows).length);
    }

    Run documentIs(Object want) {
        return due("document()", want, x::document);
    }

    Run look(Object want, long t, byte[]... rows) {
        return bytes(rows).due("look(" + t + ")", want, () -> x.look(t));
    }

    Run keys(Object want) {
        return due("keys()", want, x::keys);
    }

    Run key(Object want, int k, int what) {
        return due("key(" + k + ", " + what + ")", want, () -> x.key(k, what));
    }

    Run print(Object want, int k, int part, int i) {
        return due("print(" + k + ", " + part + ", " + i + ")", want, () -> x.print(k, part, i));
    }

    Run usable(Object want, int k, int part, long t) {
        return due("usable(" + k + ", " + part + ", " + t + ")", want, () -> x.usable(k, part, t));
    }

    Run seal(Object want, int k, int part, int form, long t) {
        return due("seal(" + k + ", " + part + ", " + form + ", " + t + ")", want, () -> x.seal(k, part, form, t));
    }

    Run export(Object want, int k) {
        return due("export(" + k + ")", want, () -> x.export(k));
    }

    Run armor(Object want, int label) {
        return due("armor(" + label + ")", want, () -> x.armor(label));
    }

    Run out(Object want, int i) {
        return due("out(" + i + ")", want, () -> x.out(i));
    }

    Run sum(Object want) {
        return due("sum()", want, x::sum);
    }

    Run take(Object want) {
        return due("take()", want, x::take);
    }

    Run drop(Object want, int k) {
        return due("drop(" + k + ")", want, () -> x.drop(k));
    }

    Run hash(Object want, int which, int i) {
        return due("hash(" + which + ", " + i + ")", want, () -> x.hash(which, i));
    }

    // what several calls tell

    /** What stands of key k: its users, parts, seals, and whether it has a secret. */
    Run keyIs(int k, long users, long parts, long seals, long secret) {
        return key(users, k, 2).key(parts, k, 3).key(seals, k, 4).key(secret, k, 5);
    }

    Run documentHas(byte[] want) {
        byte[] first = Kit.hash(2, want);
        byte[] second = Kit.hash(8, want);
        return hash(first[0] & 255, 1, 0).hash(first[19] & 255, 1, 19).hash(second[0] & 255, 2, 0)
            .hash(second[31] & 255, 2, 31);
    }

    /** The bytes, which become the document by this. */
    Run bytesAre(byte[] want) {
        return documentIs(want.length).documentHas(want);
    }

    Run outIs(byte[] want) {
        if (want.length > 0) {
            out(want[0] & 255, 0).out(want[want.length - 1] & 255, want.length - 1);
        }
        return out(Kit.ARRAY, want.length).sum(Kit.sum(want));
    }

    // a state in which every call has something to change, and whether it is still the same

    static final byte[] DOCUMENT = Kit.text("told before");
    static final byte[] BYTES = Kit.text("some");
    private static final byte[] FIRST = Kit.packet(6, anyKey(7));
    private static final byte[] SECOND = Kit.packet(5, anySecret(anyKey(8)));

    /** Key 0 without a secret, but a user, a part and a seal; key 1 with a secret; a document, an out, and bytes. */
    Run busy() {
        join(2, FIRST, Kit.user("u"), Kit.idle(1), Kit.packet(14, anyKey(9)), SECOND);
        return document(DOCUMENT).export(FIRST.length + 3 + 14 + FIRST.length, 0).bytes(BYTES);
    }

    Run stillBusyBut(byte[] bytes) {
        keys(2).keyIs(0, 1, 1, 1, 0).keyIs(1, 0, 0, 0, 1).key(7, 0, 0).key(8, 1, 0);
        outIs(Kit.cat(FIRST, Kit.user("u"), Kit.idle(1), Kit.packet(14, anyKey(9))));
        return documentHas(DOCUMENT).bytesAre(bytes);
    }

    Run stillBusy() {
        return stillBusyBut(BYTES);
    }

    // outs of a size that is asked for

    static byte[] makerLetter(byte[] document) {
        byte[] name = Kit.cut(MAKER_PRINT, 12, 20);
        byte[] front = Kit.packet(4, Kit.cat(Kit.row(3, 0, 8, 1), name, Kit.row(1)));
        return Kit.cat(front, Kit.packet(11, Kit.cat(Kit.row('b', 0, 0, 0, 0, 0), document)), makerSeal(0, document));
    }

    static byte[] makerSeal(int type, byte[] thing) {
        Kit.Making making = Kit.seal(type, 5).sealed(Kit.note(33, Kit.cat(Kit.row(4), MAKER_PRINT)))
            .other(Kit.note(16, Kit.cut(MAKER_PRINT, 12, 20)));
        return Kit.packet(2, making.body(thing, new BigInteger(1, making.frame(63, thing))));
    }

    Run maker() {
        return join(1, Kit.packet(5, anySecret(MAKER)));
    }

    /** Makes an out of so many bytes (300 to 4,235, but 324): letters are sealed, each about the one before. */
    byte[] makeOut(int size) {
        int around = 15 + 6 + SEAL_SIZE;
        int first = size;
        int rounds = 0;
        while (first > 186) {
            first -= around + (first - around - 3 >= 186 ? 3 : 2);
            rounds++;
        }
        byte[] made = new byte[first];
        java.util.Arrays.fill(made, (byte) 'x');
        for (int i = 0; i < rounds; i++) {
            byte[] next = makerLetter(made);
            if (i == 0) {
                document(made);
            } else {
                take(made.length).documentIs(made.length);
            }
            seal(next.length, 0, -1, 2, 5);
            made = next;
        }
        Kit.same(sentence + ": the size of what was made", String.valueOf(made.length), String.valueOf(size));
        return made;
    }
}
