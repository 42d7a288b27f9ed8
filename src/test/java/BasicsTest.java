import java.util.Arrays;

/** Promises 1 a new object, 2 add, 4 document, 13 out, 14 sum, 15 take, 17 hash. */
public final class BasicsTest {
    public static void main(String[] args) {
        newObject();
        add();
        document();
        hash();
        outSumTake();
        Kit.done();
    }

    private static void newObject() {
        SignetRing x = new SignetRing();
        Kit.due("keys of a new object", x::keys, 0);
        Kit.due("out of a new object", () -> x.out(0), Kit.ARRAY);
        Kit.due("sum of a new object", x::sum, 0xb704ce);
        Kit.due("take of a new object", x::take, 0);
        Kit.due("hash of a new object", () -> x.hash(1, 0), 0xda);
        Kit.due("hash of a new object", () -> x.hash(2, 31), 0x55);
        Kit.due("document of a new object", x::document, 0);
        Kit.due("join of a new object", x::join, -1);
        Kit.due("look of a new object", () -> x.look(0), -1);
    }

    private static void add() {
        SignetRing x = new SignetRing();
        for (int n : new int[] {0, 9, -1, Integer.MIN_VALUE, Integer.MAX_VALUE}) {
            Kit.due("add of " + n + " bytes", Kit.asLong(x.add(1, n)), 0);
        }
        for (int n = 1; n <= 8; n++) {
            Kit.due("add of " + n + " bytes", Kit.asLong(x.add(0x8877665544332211L, n)), 1);
        }
        Kit.due("document", x::document, 36);
        byte[] all = new byte[0];
        for (int n = 1; n <= 8; n++) {
            all = Kit.cat(all, Kit.cut(Kit.row(0x11, 0x22, 0x33, 0x44, 0x55, 0x66, 0x77, 0x88), 0, n));
        }
        hashesAre(x, all);
    }

    private static void document() {
        SignetRing x = new SignetRing();
        Kit.told(x, Kit.text("one"));
        hashesAre(x, Kit.text("one"));
        Kit.due("a document of no bytes", x::document, 0);
        hashesAre(x, new byte[0]);
    }

    private static void hash() {
        for (int size : new int[] {1, 55, 56, 57, 63, 64, 65, 119, 120, 128, 1000}) {
            byte[] bytes = new byte[size];
            Arrays.fill(bytes, (byte) (size + 100));
            hashesAre(Kit.told(new SignetRing(), bytes), bytes);
        }
        SignetRing x = new SignetRing();
        Kit.due("hash(0, 0)", () -> x.hash(0, 0), Kit.ARGUMENT);
        Kit.due("hash(3, 0)", () -> x.hash(3, 0), Kit.ARGUMENT);
        Kit.due("hash(3, -1)", () -> x.hash(3, -1), Kit.ARGUMENT);
        Kit.due("hash(-1, 99)", () -> x.hash(-1, 99), Kit.ARGUMENT);
        Kit.due("hash(1, 20)", () -> x.hash(1, 20), Kit.INDEX);
        Kit.due("hash(1, -1)", () -> x.hash(1, -1), Kit.INDEX);
        Kit.due("hash(2, 32)", () -> x.hash(2, 32), Kit.INDEX);
        Kit.due("hash(2, -1)", () -> x.hash(2, -1), Kit.INDEX);
        Kit.due("hash(2, MIN)", () -> x.hash(2, Integer.MIN_VALUE), Kit.INDEX);
    }

    private static void hashesAre(SignetRing x, byte[] document) {
        byte[] first = Kit.hash(2, document);
        byte[] second = Kit.hash(8, document);
        for (int i = 0; i < 32; i++) {
            int place = i;
            if (i < 20) {
                Kit.due("hash(1, " + i + ") of " + document.length, () -> x.hash(1, place), first[i] & 255);
            }
            Kit.due("hash(2, " + i + ") of " + document.length, () -> x.hash(2, place), second[i] & 255);
        }
    }

    private static void outSumTake() {
        Kit.Pair ada = new Kit.Pair(512, 65537, 1000, 1);
        SignetRing x = Kit.ring(ada.secretKey());
        byte[] document = Kit.text("one\ntwo");
        byte[] out = Kit.made(ada, 2, document, 7);
        Kit.told(x, document);
        Kit.due("seal", () -> x.seal(0, -1, 2, 7), out.length);
        for (int i = 0; i < out.length; i++) {
            int place = i;
            Kit.due("out(" + i + ")", () -> x.out(place), out[i] & 255);
        }
        Kit.due("out behind its end", () -> x.out(out.length), Kit.ARRAY);
        Kit.due("out(-1)", () -> x.out(-1), Kit.ARRAY);
        Kit.due("out(MAX)", () -> x.out(Integer.MAX_VALUE), Kit.ARRAY);
        Kit.due("out(MIN)", () -> x.out(Integer.MIN_VALUE), Kit.ARRAY);
        Kit.due("sum", x::sum, Kit.sum(out));
        Kit.feed(x, Kit.text("goes away"));
        Kit.due("take", x::take, out.length);
        Kit.due("document of what was taken", x::document, out.length);
        hashesAre(x, out);
        Kit.due("the out stays", x::sum, Kit.sum(out));
        Kit.due("export", () -> x.export(0), 79);
        Kit.feed(x, Kit.text("goes away"));
        Kit.due("take", x::take, 79);
        Kit.feed(x, Kit.text("comes behind"));
        Kit.due("document of both", x::document, 91);
        hashesAre(x, Kit.cat(ada.key(), Kit.text("comes behind")));
        Kit.due("sum of a key", x::sum, Kit.sum(ada.key()));
    }
}
