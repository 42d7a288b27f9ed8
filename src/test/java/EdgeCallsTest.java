import java.util.Arrays;

/** Edges of the calls themselves: empty, full, refused; promises 1, 2, 4, 6 to 8, 12 to 17, and all that is thrown. */
public final class EdgeCallsTest {
    private static final int LOW = Integer.MIN_VALUE;
    private static final int HIGH = Integer.MAX_VALUE;
    private static final byte[] KEY = Kit.packet(6, Run.anyKey(7));

    public static void main(String[] args) {
        newObject();
        addCounts();
        addOrder();
        addRoom();
        document();
        keys();
        keyWhich();
        keyWhat();
        printWhich();
        printPlace();
        outPlace();
        sum();
        take();
        drop();
        hashWhich();
        hashPlace();
        hashSizes();
        hashOfTheDocument();
        armorLabel();
        armorRoom();
        times();
        thrownFirst();
        thrownChangesNothing();
        faultTakesBytes();
        Kit.done();
    }

    private static Run run(String sentence) {
        return new Run(sentence);
    }

    private static void newObject() {
        run("1: no bytes").documentIs(0);
        run("1: no bytes").join(-1);
        run("1: no bytes").look(-1, 0);
        run("1: no out").out(Kit.ARRAY, 0).sum(0xb704ce).take(0);
        run("1: no out").armor(Kit.signs("SEAL", new byte[0]).length, 1);
        run("1: an empty document").documentHas(new byte[0]);
        run("1: no keys").keys(0).key(Kit.INDEX, 0, 0).print(Kit.INDEX, 0, -1, 0).usable(Kit.INDEX, 0, -1, 0)
            .seal(Kit.INDEX, 0, -1, 0, 0).export(Kit.INDEX, 0).drop(Kit.INDEX, 0);
    }

    private static void addCounts() {
        for (int n : new int[] {0, 9, 10, 16, 64, -1, -8, LOW, HIGH}) {
            run("2: false, changing nothing, when n is not 1 .. 8").bytes(Run.BYTES).add(0, -1, n).bytesAre(Run.BYTES);
        }
        for (int n = 1; n <= 8; n++) {
            byte[] ones = new byte[n];
            Arrays.fill(ones, (byte) 255);
            run("2: n of 1 .. 8").bytes(Run.BYTES).add(1, -1, n).bytesAre(Kit.cat(Run.BYTES, ones));
        }
    }

    private static void addOrder() {
        byte[] order = Kit.row(0xf1, 0x72, 0xf3, 0x74, 0xf5, 0x76, 0xf7, 0x78);
        for (int n = 1; n <= 8; n++) {
            run("2: the n lowest bytes, the lowest first").add(1, 0x78f776f574f372f1L, n).bytesAre(Kit.cut(order, 0, n));
        }
        run("2: behind the bytes").add(1, 0x4241, 2).add(1, 0x43, 1).bytesAre(Kit.text("ABC"));
        run("2: the lowest byte of the lowest number").add(1, Long.MIN_VALUE, 8).bytesAre(Kit.row(0, 0, 0, 0, 0, 0, 0, 128));
    }

    private static void addRoom() {
        for (int size : new int[] {4087, 4088, 4089, 4094, 4095, 4096}) {
            for (int n = 1; n <= 8; n++) {
                Run x = run("2: false, changing nothing, when there would be more than 4,096").maker();
                byte[] made = Kit.cut(x.makeOut(size), 0, size);
                boolean fits = size + n <= 4096;
                x.take(size).add(fits ? 1 : 0, 0, n).bytesAre(fits ? Kit.cat(made, new byte[n]) : made);
            }
        }
        Run full = run("2: room again when the bytes were taken").maker();
        full.makeOut(4096);
        full.take(4096).add(0, 0, 1).documentIs(4096).add(1, 0, 8).take(4096).add(0, 0, 1).join(-1).add(1, 0, 8).bytesAre(new byte[8]);
        Run told = run("2: 4,096 bytes, all told by add");
        for (int i = 0; i < 511; i++) {
            told.add(1, i, 8);
        }
        told.add(1, 0, 8);
    }

    private static void document() {
        run("4: how many, of no bytes").documentIs(0).documentHas(new byte[0]);
        run("4: how many, of one").document(Kit.row(0)).documentHas(Kit.row(0));
        run("4: the bytes are taken").document(Run.BYTES).documentIs(0).documentHas(new byte[0]);
        Run x = run("4: how many, of 4,096").maker();
        byte[] made = x.makeOut(4096);
        x.take(4096).documentIs(4096).documentHas(made).outIs(made).keys(1);
    }

    private static void keys() {
        run("6: none").keys(0);
        run("6: one").join(1, KEY).keys(1).drop(0, 0).keys(0);
        Run x = run("6: up to 16");
        for (int i = 0; i < 16; i++) {
            x.join(1, Kit.packet(6, Run.anyKey(i))).keys(i + 1);
        }
        x.join(-1, Kit.packet(6, Run.anyKey(16))).keys(16).drop(15, 0).keys(15);
    }

    private static void keyWhich() {
        Run x = run("7: k").join(2, KEY, Kit.packet(6, Run.anyKey(8)));
        x.key(7, 0, 0).key(8, 1, 0);
        for (int bad : new int[] {-1, 2, 3, 16, LOW, HIGH}) {
            x.key(Kit.INDEX, bad, 0).key(Kit.INDEX, bad, 5);
        }
        x.drop(1, 0).key(8, 0, 0).key(Kit.INDEX, 1, 0);
    }

    private static void keyWhat() {
        Run x = run("7: what").join(1, KEY);
        x.key(7, 0, 0).key(497, 0, 1).keyIs(0, 0, 0, 0, 0);
        for (int bad : new int[] {-1, 6, 7, LOW, HIGH}) {
            x.key(Kit.INDEX, 0, bad);
        }
        Run made = run("7: when it was made, of 0 .. 2^32 - 1");
        made.join(2, Kit.packet(6, Run.anyKey(0)), Kit.packet(6, Run.anyKey(0xffffffffL)));
        made.key(0, 0, 0).key(0xffffffffL, 1, 0);
    }

    private static void printWhich() {
        byte[] part = Run.anyKey(9);
        byte[] ofKey = Kit.hash(2, Kit.cat(Kit.row(0x99), Kit.big(KEY.length - 2, 2), Kit.cut(KEY, 2, KEY.length)));
        byte[] ofPart = Kit.hash(2, Kit.cat(Kit.row(0x99), Kit.big(part.length, 2), part));
        Run x = run("8: a key (part = -1), or a part of it").join(2, Kit.packet(6, Run.anyKey(8)), KEY, Kit.packet(14, part));
        x.print(ofKey[0] & 255, 1, -1, 0).print(ofPart[0] & 255, 1, 0, 0);
        for (int bad : new int[] {-2, 1, 8, LOW, HIGH}) {
            x.print(Kit.INDEX, 1, bad, 0);
        }
        for (int bad : new int[] {-1, 2, LOW, HIGH}) {
            x.print(Kit.INDEX, bad, -1, 0).print(Kit.INDEX, bad, 0, 0);
        }
        x.print(Kit.INDEX, 0, 0, 0);
    }

    private static void printPlace() {
        byte[] print = Kit.hash(2, Kit.cat(Kit.row(0x99), Kit.big(KEY.length - 2, 2), Kit.cut(KEY, 2, KEY.length)));
        Run x = run("8: byte i (0 .. 19)").join(1, KEY);
        for (int i = 0; i < 20; i++) {
            x.print(print[i] & 255, 0, -1, i);
        }
        for (int bad : new int[] {-1, 20, 21, LOW, HIGH}) {
            x.print(Kit.INDEX, 0, -1, bad);
        }
    }

    private static void outPlace() {
        Run x = run("13: a byte of the out").join(1, KEY).out(Kit.ARRAY, 0).export(KEY.length, 0);
        for (int i = 0; i < KEY.length; i++) {
            x.out(KEY[i] & 255, i);
        }
        for (int bad : new int[] {-1, KEY.length, KEY.length + 1, LOW, HIGH}) {
            x.out(Kit.ARRAY, bad);
        }
        Run shorter = run("13: no byte of a longer out before").join(2, KEY, Kit.user("user"), Kit.packet(6, Run.anyKey(8)));
        shorter.export(KEY.length + 6, 0).out((int) 'r', KEY.length + 5).export(KEY.length, 1).out(Kit.ARRAY, KEY.length);
    }

    private static void sum() {
        run("14: of no out").sum(0xb704ce).join(1, KEY).sum(0xb704ce);
        run("14: of an out").join(1, KEY).export(KEY.length, 0).sum(Kit.sum(KEY)).sum(Kit.sum(KEY));
        byte[] signs = Kit.signs("SEAL", KEY);
        run("14: of signs").join(1, KEY).export(KEY.length, 0).armor(signs.length, 1).sum(Kit.sum(signs));
    }

    private static void take() {
        run("15: no out").bytes(Run.BYTES).take(0).documentIs(0);
        for (int size : new int[] {300, 4095, 4096, 4097, 4098, 4235}) {
            Run x = run("15: the first 4,096 bytes of the out, which has " + size).maker();
            byte[] made = x.makeOut(size);
            x.bytes(Run.BYTES).take(Math.min(size, 4096)).outIs(made).bytesAre(Kit.cut(made, 0, Math.min(size, 4096)));
        }
    }

    private static void drop() {
        byte[][] keys = new byte[16][];
        for (int i = 0; i < 16; i++) {
            keys[i] = Kit.packet(6, Run.anyKey(i));
        }
        for (int k : new int[] {0, 1, 7, 14, 15}) {
            Run x = run("16: key k goes, those behind it move up").join(16, keys).drop(15, k).keys(15);
            for (int i = 0; i < 15; i++) {
                x.key(i < k ? i : i + 1, i, 0);
            }
            x.drop(Kit.INDEX, 15).key(Kit.INDEX, 15, 0);
            x.join(1, Kit.packet(6, Run.anyKey(16))).key(16, 15, 0);
        }
        Run x = run("16: down to none").join(2, keys[0], keys[1]);
        for (int bad : new int[] {-1, 2, LOW, HIGH}) {
            x.drop(Kit.INDEX, bad);
        }
        x.keys(2).drop(1, 1).drop(0, 0).drop(Kit.INDEX, 0).keys(0);
        run("16: what goes is not there any more").join(1, keys[0], Kit.user("u")).drop(0, 0).join(1, keys[0]).keyIs(0, 0, 0, 0, 0);
    }

    private static void hashWhich() {
        Run x = run("17: a hash (1, 2)").document(Run.BYTES).documentHas(Run.BYTES);
        for (int bad : new int[] {0, 3, 8, -1, LOW, HIGH}) {
            x.hash(Kit.ARGUMENT, bad, 0);
        }
    }

    private static void hashPlace() {
        Run x = run("17: byte i of a hash").document(Run.BYTES);
        for (int which = 1; which <= 2; which++) {
            byte[] hash = Kit.hash(which == 1 ? 2 : 8, Run.BYTES);
            for (int i = 0; i < hash.length; i++) {
                x.hash(hash[i] & 255, which, i);
            }
            for (int bad : new int[] {-1, hash.length, hash.length + 1, LOW, HIGH}) {
                x.hash(Kit.INDEX, which, bad);
            }
        }
    }

    private static void hashSizes() {
        for (int size : new int[] {0, 1, 3, 4, 54, 55, 56, 59, 60, 63, 64, 65, 118, 119, 120, 127, 128, 129, 191, 192, 511, 512}) {
            byte[] bytes = new byte[size];
            Arrays.fill(bytes, (byte) (size + 200));
            run("17: of a document of " + size + " bytes").document(bytes).documentHas(bytes);
        }
        for (int size : new int[] {4087, 4088, 4095, 4096}) {
            Run x = run("17: of a document of " + size + " bytes").maker();
            byte[] made = x.makeOut(size);
            x.take(size).bytesAre(made);
        }
    }

    /** Each hash is asked for just before and just after the document becomes another. */
    private static void hashOfTheDocument() {
        byte[] one = Kit.text("one");
        byte[] two = Kit.text("two");
        for (int which = 1; which <= 2; which++) {
            int first = Kit.hash(which == 1 ? 2 : 8, one)[0] & 255;
            int second = Kit.hash(which == 1 ? 2 : 8, two)[0] & 255;
            int none = Kit.hash(which == 1 ? 2 : 8, new byte[0])[0] & 255;
            new Run("17: a hash of the document, not of another").hash(none, which, 0).document(one).hash(first, which, 0).document(two)
                .hash(second, which, 0).bytes(one).hash(second, which, 0).documentIs(3).hash(first, which, 0).documentIs(0).hash(none, which, 0);
        }
    }

    private static void armorLabel() {
        String[] labels = {"SEALED KEYS", "SEAL", "SEALED LETTER"};
        for (int label = 0; label < 3; label++) {
            byte[] none = Kit.signs(labels[label], new byte[0]);
            run("12: label " + label + ", of no bytes").armor(none.length, label).outIs(none);
            byte[] signs = Kit.signs(labels[label], KEY);
            run("12: label " + label).join(1, KEY).export(KEY.length, 0).armor(signs.length, label).outIs(signs);
        }
        for (int bad : new int[] {-1, 3, 4, LOW, HIGH}) {
            run("12: another label").join(1, KEY).export(KEY.length, 0).armor(Kit.ARGUMENT, bad).outIs(KEY);
        }
    }

    /** Clear text of so many bytes: each line - of the document takes two bytes more there. */
    private static void armorRoom() {
        for (int size : new int[] {7999, 8000, 8001, 8002}) {
            Run x = run("12: an out of " + size + " bytes").maker();
            int lines = 4 * 458;
            // the first - stands in a line that has begun before
            int start = size - (42 + 1 + Kit.signs("SEAL", new byte[115]).length) - 4 * lines + 2;
            byte[] document = Kit.cat(x.makeOut(start), Kit.text("-\n".repeat(lines)));
            x.take(start).bytes(Kit.text("-\n".repeat(lines))).documentIs(document.length);
            x.seal(size, 0, -1, 3, 5);
            if (size <= 8000) {
                x.armor(39 + 22 + (size + 2) / 3 * 4 + (size + 47) / 48, 0);
            } else {
                x.armor(Kit.UNSUPPORTED, 0).out(Kit.ARRAY, size).out(10, size - 1).armor(Kit.ARGUMENT, 3);
            }
        }
    }

    private static void times() {
        byte[] secret = Kit.packet(5, Run.anySecret(Run.anyKey(7)));
        for (long t : new long[] {0, 1, 0x7fffffffL, 0x80000000L, 0xfffffffeL, 0xffffffffL}) {
            run("9: a time").join(1, secret).usable(t < 7 ? 1 : 4, 0, -1, t);
            run("5: a time").look(-1, t);
            run("10: a time").join(1, secret).seal(115, 0, -1, 0, t).out(t >> 24, 10).out(t & 255, 13);
        }
        for (long t : new long[] {-1, -2, 0x100000000L, 0x100000001L, -0x80000000L, Long.MIN_VALUE, Long.MAX_VALUE}) {
            run("9: no time").join(1, secret).usable(Kit.ARGUMENT, 0, -1, t);
            run("5: no time").look(Kit.ARGUMENT, t);
            run("10: no time").join(1, secret).seal(Kit.ARGUMENT, 0, -1, 0, t);
        }
    }

    private static void thrownFirst() {
        Run x = run("the exception that is named first").busy();
        x.usable(Kit.INDEX, 2, -1, -1).usable(Kit.INDEX, 0, 1, -1).usable(Kit.ARGUMENT, 0, 0, -1);
        x.seal(Kit.INDEX, 2, -1, 4, -1).seal(Kit.INDEX, 0, 1, -1, 0).seal(Kit.INDEX, -1, -1, 0, 1L << 32);
        x.seal(Kit.ARGUMENT, 0, -1, 4, 0).seal(Kit.ARGUMENT, 0, -1, 0, -1).seal(Kit.ARGUMENT, 0, 0, -1, 1L << 32);
        x.seal(Kit.STATE, 0, -1, 0, 0).seal(Kit.STATE, 0, 0, 3, 0);
        x.hash(Kit.ARGUMENT, 0, -1).hash(Kit.ARGUMENT, 3, 32).hash(Kit.INDEX, 1, 20);
        x.stillBusy();
    }

    private static Run busy(String call) {
        return run("a call that throws changes nothing, " + call).busy();
    }

    private static void thrownChangesNothing() {
        busy("look").look(Kit.ARGUMENT, -1).look(Kit.ARGUMENT, 1L << 32).stillBusy();
        busy("key").key(Kit.INDEX, 2, 0).key(Kit.INDEX, -1, 0).key(Kit.INDEX, 0, 6).stillBusy();
        busy("print").print(Kit.INDEX, 2, -1, 0).print(Kit.INDEX, 0, 1, 0).print(Kit.INDEX, 0, 0, 20).stillBusy();
        busy("usable").usable(Kit.INDEX, 2, -1, 0).usable(Kit.ARGUMENT, 0, 0, -1).stillBusy();
        for (int form = 0; form < 4; form++) {
            busy("seal").seal(Kit.INDEX, 2, -1, form, 0).seal(Kit.STATE, 0, -1, form, 0).seal(Kit.STATE, 0, 0, form, 0).stillBusy();
            busy("seal").seal(Kit.ARGUMENT, 1, -1, form, -1).seal(Kit.ARGUMENT, 1, -1, form, 1L << 32).stillBusy();
        }
        busy("seal").seal(Kit.ARGUMENT, 1, -1, -1, 0).seal(Kit.ARGUMENT, 1, -1, 4, 0).stillBusy();
        busy("export").export(Kit.INDEX, 2).export(Kit.INDEX, -1).stillBusy();
        busy("armor").armor(Kit.ARGUMENT, 3).armor(Kit.ARGUMENT, -1).stillBusy();
        busy("out").out(Kit.ARRAY, -1).out(Kit.ARRAY, 5000).stillBusy();
        busy("drop").drop(Kit.INDEX, 2).drop(Kit.INDEX, -1).stillBusy();
        busy("hash").hash(Kit.ARGUMENT, 0, 0).hash(Kit.ARGUMENT, 3, 0).hash(Kit.INDEX, 1, 20).hash(Kit.INDEX, 2, 32).stillBusy();
        busy("add, which is refused").add(0, 1, 0).add(0, 1, 9).stillBusy();
    }

    private static void faultTakesBytes() {
        byte[] none = new byte[0];
        busy("join, with a fault of a line").join(-100000).stillBusyBut(none);
        busy("look, with a fault of a line").look(-100000, 5).stillBusyBut(none);
        byte[] more = Kit.cat(Kit.packet(5, Run.anySecret(Run.anyKey(7))), Kit.idle(5), Kit.user("u"), Kit.idle(6), Kit.user("v"),
            Kit.packet(7, Run.anySecret(Run.anyKey(9))), Kit.idle(7), Kit.packet(14, Run.anyKey(10)), Kit.packet(6, Run.anyKey(11)));
        busy("join, with a fault of a packet").documentIs(4).document(Run.DOCUMENT).join(-1 - more.length, more, Kit.row(0))
            .stillBusyBut(none);
        busy("join, of no key").documentIs(4).document(Run.DOCUMENT).join(-4, Kit.packet(12, Kit.row(1))).stillBusyBut(none);
        busy("look, with a fault of a packet").documentIs(4).document(Run.DOCUMENT).look(-1, 5, more).stillBusyBut(none);
        busy("look, without a fault").documentIs(4).document(Run.DOCUMENT).look(2, 5, Run.makerSeal(0, Run.DOCUMENT))
            .stillBusyBut(none);
    }
}
