/** Promise 5 look: documents sealed apart, as letters, or in clear text, and what their seals come to. */
public final class LookTest {
    private static final Kit.Pair ADA = new Kit.Pair(512, 65537, 100, 1);
    private static final Kit.Pair BO = new Kit.Pair(512, 17, 100, 2);
    private static final Kit.Pair SUB = new Kit.Pair(504, 3, 110, 3);
    private static final byte[] DOCUMENT = Kit.text("one\ntwo\r\nthree");
    private static final byte[] BOUND = Kit.cat(ADA.key(), Kit.seal(0x1f, 100).by(ADA, Kit.thing(ADA)));
    private static final byte[] DETACHED = Kit.seal(0, 150).named(ADA).by(ADA, DOCUMENT);

    public static void main(String[] args) {
        wrongArguments();
        apart();
        comesTo();
        whoseSeal();
        whatTheKeyIs();
        letters();
        lettersInParts();
        wrongFronts();
        wrongLetters();
        clearText();
        wrongClearText();
        inSigns();
        nothingChanges();
        Kit.done();
    }

    private static SignetRing bound() {
        return Kit.told(Kit.ring(BOUND), DOCUMENT);
    }

    private static void lookIs(String what, SignetRing x, long t, long want, byte[]... packets) {
        Kit.due("look at " + what, () -> Kit.look(x, t, packets), want);
        Kit.due("the bytes are taken", x::document, 0);
        Kit.told(x, DOCUMENT);
    }

    private static void wrongArguments() {
        SignetRing x = bound();
        Kit.feed(x, DETACHED);
        for (long bad : new long[] {-1, 1L << 32, Long.MIN_VALUE, Long.MAX_VALUE}) {
            Kit.due("look(" + bad + ")", () -> x.look(bad), Kit.ARGUMENT);
        }
        Kit.due("the bytes stayed", () -> x.look(150), 0);
        Kit.due("nothing left", () -> x.look(150), -1);
    }

    private static void apart() {
        lookIs("a seal", bound(), 150, 0, DETACHED);
        lookIs("a seal, at the last time", bound(), 0xffffffffL, 0, DETACHED);
        lookIs("a seal by the first hash", bound(), 150, 0, Kit.seal(0, 150).first().named(ADA).by(ADA, DOCUMENT));
        lookIs("a seal of lines", bound(), 150, 0, Kit.seal(1, 150).named(ADA).by(ADA, Kit.lines(DOCUMENT)));
        lookIs("lines that are no lines", bound(), 150, 3, Kit.seal(1, 150).named(ADA).by(ADA, DOCUMENT));
        lookIs("no lines that are lines", bound(), 150, 3, Kit.seal(0, 150).named(ADA).by(ADA, Kit.lines(DOCUMENT)));
        byte[] body = Kit.cut(DETACHED, 2, DETACHED.length);
        lookIs("an old packet", bound(), 150, 0, Kit.row(128 | 2 << 2, body.length), body);
        for (int type = 2; type < 256; type += 3) {
            lookIs("type " + type, bound(), 150, -1, Kit.seal(type, 150).named(ADA).by(ADA, DOCUMENT));
        }
        lookIs("one that would be passed", bound(), 150, -1, Kit.packet(2, Kit.with(body, 0, 3)));
        lookIs("one that would be passed", bound(), 150, -1, Kit.packet(2, Kit.with(body, 2, 2)));
        lookIs("one that would be passed", bound(), 150, -1, Kit.packet(2, Kit.with(body, 3, 9)));
        for (int i = 1; i < DETACHED.length; i++) {
            lookIs("not all of it", bound(), 150, -1, Kit.cut(DETACHED, 0, i));
        }
        lookIs("two seals", bound(), 150, -1 - DETACHED.length, DETACHED, DETACHED);
        lookIs("a byte behind", bound(), 150, -1 - DETACHED.length, DETACHED, Kit.row(0));
        for (int kind = 0; kind < 64; kind++) {
            if (kind != 2 && kind != 4) {
                lookIs("kind " + kind, bound(), 150, -1, Kit.packet(kind, body));
            }
            lookIs("kind " + kind + " behind", bound(), 150, -1 - DETACHED.length, DETACHED, Kit.packet(kind, Kit.row(1)));
        }
        lookIs("a key", bound(), 150, -1, ADA.key());
        lookIs("nothing", bound(), 150, -1);
    }

    private static void comesTo() {
        byte[] print = Kit.cat(Kit.row(4), ADA.print);
        lookIs("a vain seal", bound(), 150, 1, new Kit.Making(0).named(ADA).by(ADA, DOCUMENT));
        lookIs("a grave note", bound(), 150, 1, Kit.seal(0, 150).sealed(Kit.note(129, 1)).named(ADA).by(ADA, DOCUMENT));
        lookIs("neither 16 nor 33", bound(), 150, 1, Kit.seal(0, 150).by(ADA, DOCUMENT));
        lookIs("a sealed 16", bound(), 150, 0, Kit.seal(0, 150).sealed(Kit.note(16, ADA.name())).by(ADA, DOCUMENT));
        lookIs("a 33", bound(), 150, 0, Kit.seal(0, 150).printed(ADA).by(ADA, DOCUMENT));
        lookIs("a 33 that is not sealed", bound(), 150, 0, Kit.seal(0, 150).other(Kit.note(33, print)).by(ADA, DOCUMENT));
        lookIs("nobody's name", bound(), 150, 2, Kit.seal(0, 150).named(BO).by(ADA, DOCUMENT));
        lookIs("nobody's print", bound(), 150, 2, Kit.seal(0, 150).printed(BO).named(ADA).by(ADA, DOCUMENT));
        lookIs("the print goes before the name", bound(), 150, 0, Kit.seal(0, 150).printed(ADA).named(BO).by(ADA, DOCUMENT));
        Kit.Making both = Kit.seal(0, 150).sealed(Kit.note(16, ADA.name())).named(BO);
        lookIs("the sealed name counts", bound(), 150, 0, both.by(ADA, DOCUMENT));
        lookIs("the last name counts", bound(), 150, 0, Kit.seal(0, 150).named(BO).named(ADA).by(ADA, DOCUMENT));
        lookIs("the last name counts", bound(), 150, 2, Kit.seal(0, 150).named(ADA).named(BO).by(ADA, DOCUMENT));
        byte[] near = Kit.with(ADA.print, 0, ADA.print[0] ^ 1);
        lookIs("another print", bound(), 150, 2, Kit.seal(0, 150).other(Kit.note(33, Kit.cat(Kit.row(4), near))).by(ADA, DOCUMENT));
        byte[] nearName = Kit.with(ADA.name(), 7, ADA.name()[7] ^ 1);
        lookIs("another name", bound(), 150, 2, Kit.seal(0, 150).other(Kit.note(16, nearName)).by(ADA, DOCUMENT));
        lookIs("another's seal", bound(), 150, 3, Kit.seal(0, 150).named(ADA).by(BO, DOCUMENT));
        lookIs("another document", bound(), 150, 3, Kit.seal(0, 150).named(ADA).by(ADA, Kit.text("other")));
        lookIs("not true, and made later", bound(), 10, 3, Kit.seal(0, 150).named(ADA).by(BO, DOCUMENT));
        lookIs("made later", bound(), 149, 4, DETACHED);
        lookIs("made later, before the key", bound(), 10, 4, DETACHED);
        byte[] ends = Kit.seal(0, 150).lasts(10).named(ADA).by(ADA, DOCUMENT);
        lookIs("that ends", bound(), 159, 0, ends);
        lookIs("that has ended", bound(), 160, 4, ends);
        lookIs("that never ends", bound(), 0xffffffffL, 0, Kit.seal(0, 150).lasts(0).named(ADA).by(ADA, DOCUMENT));
        lookIs("made before the key", bound(), 150, 0, Kit.seal(0, 5).named(ADA).by(ADA, DOCUMENT));
        lookIs("an empty ring", Kit.told(new SignetRing(), DOCUMENT), 150, 2, DETACHED);
    }

    private static byte[] bondOfPart(int uses) {
        byte[] thing = Kit.thing(ADA, SUB);
        byte[] back = Kit.note(32, Kit.seal(0x19, 120).body(SUB, thing));
        return Kit.cat(SUB.part(), Kit.seal(0x18, 120).uses(uses).sealed(back).by(ADA, thing));
    }

    private static void whoseSeal() {
        byte[] seal = Kit.seal(0, 120).named(SUB).by(SUB, DOCUMENT);
        byte[] printed = Kit.seal(0, 120).printed(SUB).by(SUB, DOCUMENT);
        byte[] subAlone = Kit.cat(SUB.key(), Kit.seal(0x1f, 110).by(SUB, Kit.thing(SUB)));
        SignetRing part = Kit.told(Kit.ring(BO.key(), BOUND, bondOfPart(2)), DOCUMENT);
        lookIs("a part's seal", part, 120, 0, seal);
        lookIs("a part's seal", part, 120, 0, printed);
        lookIs("a part's seal, made later", part, 119, 4, seal);
        SignetRing partFirst = Kit.told(Kit.ring(BOUND, bondOfPart(4), subAlone), DOCUMENT);
        lookIs("the part comes first", partFirst, 120, 15, seal);
        lookIs("the part comes first", partFirst, 120, 15, printed);
        SignetRing keyFirst = Kit.told(Kit.ring(subAlone, BOUND, bondOfPart(4)), DOCUMENT);
        lookIs("the key comes first", keyFirst, 120, 0, seal);
        SignetRing twice = Kit.told(Kit.ring(SUB.key(), SUB.part(), BOUND), DOCUMENT);
        lookIs("the key before its own part", twice, 109, 4, seal);
        lookIs("the key before its own part", twice, 120, 14, seal);
    }

    private static void whatTheKeyIs() {
        byte[] early = Kit.seal(0, 5).named(ADA).by(ADA, DOCUMENT);
        byte[] thing = Kit.thing(ADA);
        lookIs("a key that is not yet", bound(), 99, 11, early);
        byte[] ends = Kit.seal(0x1f, 100).keyLasts(50).by(ADA, thing);
        lookIs("an ended key", Kit.told(Kit.ring(ADA.key(), ends), DOCUMENT), 150, 12, early);
        byte[] against = Kit.seal(0x20, 100).by(ADA, thing);
        lookIs("a revoked key", Kit.told(Kit.ring(BOUND, against), DOCUMENT), 150, 13, early);
        lookIs("an unbound key", Kit.told(Kit.ring(ADA.key()), DOCUMENT), 150, 14, early);
        byte[] none = Kit.seal(0x1f, 100).uses(1).by(ADA, thing);
        lookIs("a key that seals not", Kit.told(Kit.ring(ADA.key(), none), DOCUMENT), 150, 15, early);
        byte[] loose = Kit.cat(SUB.part(), Kit.seal(0x18, 110).uses(2).by(ADA, Kit.thing(ADA, SUB)));
        byte[] bySub = Kit.seal(0, 5).named(SUB).by(SUB, DOCUMENT);
        lookIs("a part that is not backed", Kit.told(Kit.ring(BOUND, loose), DOCUMENT), 150, 16, bySub);
        lookIs("a part that is not yet", Kit.told(Kit.ring(BOUND, loose), DOCUMENT), 105, 11, bySub);
    }

    private static byte[] front(int type, int hash) {
        return Kit.packet(4, Kit.cat(Kit.row(3, type, hash, 1), new byte[8], Kit.row(1)));
    }

    private static byte[] letter(int form, String name, byte[] document) {
        return Kit.cat(Kit.row(form, name.length()), Kit.text(name), Kit.row(9, 8, 7, 6), document);
    }

    private static final byte[] OTHER = Kit.text("another\ndocument");
    private static final byte[] SEALED = Kit.seal(0, 150).named(ADA).by(ADA, OTHER);
    private static final byte[] BINARY = Kit.packet(11, letter('b', "", OTHER));

    private static void letters() {
        for (int form : new int[] {'b', 't', 'u'}) {
            lookIs("a letter", bound(), 150, 0, front(0, 8), Kit.packet(11, letter(form, "name", OTHER)), SEALED);
        }
        byte[] lines = Kit.seal(1, 150).first().named(ADA).by(ADA, Kit.lines(OTHER));
        lookIs("a letter of lines", bound(), 150, 0, front(1, 2), BINARY, lines);
        byte[] long255 = Kit.packet(11, letter('b', "x".repeat(255), OTHER));
        lookIs("a letter with a long name", bound(), 150, 0, front(0, 8), long255, SEALED);
        byte[] empty = Kit.seal(0, 150).named(ADA).by(ADA, new byte[0]);
        lookIs("an empty letter", bound(), 150, 0, front(0, 8), Kit.packet(11, letter('b', "", new byte[0])), empty);
        lookIs("another letter", bound(), 150, 3, front(0, 8), Kit.packet(11, letter('b', "", DOCUMENT)), SEALED);
        lookIs("a letter that was made later", bound(), 149, 4, front(0, 8), BINARY, SEALED);
        byte[] old = Kit.cat(Kit.row(128 | 11 << 2 | 1), Kit.big(BINARY.length - 2, 2), Kit.cut(BINARY, 2, BINARY.length));
        lookIs("a letter in an old packet", bound(), 150, 0, front(0, 8), old, SEALED);
        lookIs("a seal behind it", bound(), 150, -1 - 15 - BINARY.length - SEALED.length, front(0, 8), BINARY, SEALED, SEALED);
        lookIs("a passed kind behind it", bound(), 150, -1 - 15 - BINARY.length - SEALED.length, front(0, 8), BINARY, SEALED,
            Kit.packet(60, Kit.row()));
        lookIs("a passed kind before it", bound(), 150, -16, front(0, 8), Kit.packet(12, Kit.row(1)), BINARY, SEALED);
        lookIs("a passed kind first", bound(), 150, -1, Kit.packet(12, Kit.row(1)), front(0, 8), BINARY, SEALED);
        lookIs("no seal", bound(), 150, -1 - 15 - BINARY.length, front(0, 8), BINARY);
        lookIs("no letter", bound(), 150, -1 - 15, front(0, 8));
        lookIs("no letter, but a seal", bound(), 150, -1 - 15, front(0, 8), SEALED);
        lookIs("no front", bound(), 150, -1, BINARY, SEALED);
        lookIs("two letters", bound(), 150, -1 - 15 - BINARY.length, front(0, 8), BINARY, BINARY, SEALED);
        lookIs("two fronts", bound(), 150, -1 - 15, front(0, 8), front(0, 8), BINARY, SEALED);
    }

    private static void lettersInParts() {
        byte[] whole = letter('b', "", OTHER);
        byte[] rest = Kit.cut(whole, 8 + 1 + 4, whole.length);
        byte[] parts = Kit.cat(Kit.row(192 | 11, 224 + 3), Kit.cut(whole, 0, 8), Kit.row(224), Kit.cut(whole, 8, 9),
            Kit.row(224 + 2), Kit.cut(whole, 9, 13));
        lookIs("a letter in parts", bound(), 150, 0, front(0, 8), parts, Kit.row(rest.length), rest, SEALED);
        lookIs("a last part of four bytes' length", bound(), 150, 0, front(0, 8), parts, Kit.row(255, 0, 0, 0, rest.length), rest,
            SEALED);
        byte[] sealOfHalf = Kit.seal(0, 150).named(ADA).by(ADA, Kit.cut(whole, 6, 13));
        lookIs("a last part of no bytes", bound(), 150, 0, front(0, 8), parts, Kit.row(0), sealOfHalf);
        lookIs("no last part", bound(), 150, -16, front(0, 8), parts);
        lookIs("a last part that is not all there", bound(), 150, -16, front(0, 8), parts, Kit.row(rest.length + 1), rest);
        lookIs("a part that is not all there", bound(), 150, -16, front(0, 8), Kit.row(192 | 11, 224 + 12), whole, SEALED);
        lookIs("a huge part", bound(), 150, -16, front(0, 8), Kit.row(192 | 11, 254), whole, SEALED);
        byte[] seal = Kit.cut(SEALED, 2, SEALED.length);
        lookIs("a seal in parts", bound(), 150, -1, Kit.row(192 | 2, 224), Kit.cut(seal, 0, 1), Kit.row(seal.length - 1),
            Kit.cut(seal, 1, seal.length));
    }

    private static void wrongFronts() {
        byte[] body = Kit.cut(front(0, 8), 2, 15);
        for (int i : new int[] {0, 3, 12}) {
            lookIs("a front with another byte " + i, bound(), 150, -1, Kit.packet(4, Kit.with(body, i, 2)), BINARY, SEALED);
        }
        long atSeal = -1 - 15 - BINARY.length;
        lookIs("a front of another type", bound(), 150, atSeal, front(1, 8), BINARY, SEALED);
        lookIs("a front of another hash", bound(), 150, atSeal, front(0, 2), BINARY, SEALED);
        byte[] other = Kit.seal(0x10, 150).named(ADA).by(ADA, OTHER);
        lookIs("a seal of another type", bound(), 150, atSeal, front(0x10, 8), BINARY, other);
        for (int i = 4; i < 12; i++) {
            lookIs("a front for anybody", bound(), 150, 0, Kit.packet(4, Kit.with(body, i, 99)), BINARY, SEALED);
        }
        lookIs("a short front", bound(), 150, -1, Kit.packet(4, Kit.cut(body, 0, 12)), BINARY, SEALED);
        lookIs("a long front", bound(), 150, -1, Kit.packet(4, Kit.cat(body, Kit.row(1))), BINARY, SEALED);
        lookIs("an empty front", bound(), 150, -1, Kit.packet(4, Kit.row()), BINARY, SEALED);
    }

    private static void wrongLetters() {
        for (int form : new int[] {'a', 'c', 's', 'v', 'l', 0, 'B'}) {
            lookIs("a letter of form " + form, bound(), 150, -16, front(0, 8), Kit.packet(11, letter(form, "", OTHER)), SEALED);
        }
        byte[] named = letter('b', "name", new byte[0]);
        for (int i = 0; i < named.length; i++) {
            lookIs("a letter of " + i, bound(), 150, -16, front(0, 8), Kit.packet(11, Kit.cut(named, 0, i)), SEALED);
        }
    }

    private static String clear(String head, String text, byte[] seal) {
        return "-----BEGIN SEALED TEXT-----\n" + head + "\n" + text
            + new String(Kit.signs("SEAL", seal), java.nio.charset.StandardCharsets.ISO_8859_1);
    }

    private static byte[] sealOf(String document) {
        return Kit.seal(1, 150).named(ADA).by(ADA, Kit.lines(Kit.text(document)));
    }

    private static void clearIs(String what, String document, String text) {
        lookIs(what, bound(), 150, 0, Kit.text(clear("", text, sealOf(document))));
        lookIs(what + ", a head", bound(), 150, 0, Kit.text(clear("Hash: SHA256\nA: b\n", text, sealOf(document))));
        lookIs(what + ", another one", bound(), 150, 3, Kit.text(clear("", text, sealOf(document + "?"))));
        String ends = clear("", text, sealOf(document)).replace("\n", " \t\r\n");
        lookIs(what + ", blanks at the ends", bound(), 150, 0, Kit.text(ends));
    }

    private static void clearText() {
        clearIs("clear text", "one\ntwo", "one\ntwo\n");
        clearIs("no lines", "", "");
        clearIs("an empty line", "", "\n");
        clearIs("two empty lines", "\n", "\n\n");
        clearIs("blanks before", " a\n\tb", " a\n\tb\n");
        clearIs("dashes", "-a\n--\n- b\n\nc-", "- -a\n- --\n- - b\n- \n- c-\n");
        clearIs("a colon", "a: b\nc", "a: b\nc\n");
        clearIs("bytes above 127", "\u00ff\u0080", "\u00ff\u0080\n");
        clearIs("a line inside", "-----BEGIN SEAL-----", "- -----BEGIN SEAL-----\n");
        String text = clear("", "one\n", sealOf("one"));
        lookIs("blanks behind the first line", bound(), 150, 0, Kit.text(text.replaceFirst("\n", " \t\r\n")));
        lookIs("no 10 at the end", bound(), 150, 0, Kit.text(text.substring(0, text.length() - 1)));
        lookIs("an empty line at the end", bound(), 150, 0, Kit.text(text + "\n"));
        lookIs("lines with colons in the seal", bound(), 150, 0, Kit.text(text.replace("BEGIN SEAL-----\n", "BEGIN SEAL-----\nA: b\n")));
        lookIs("made later", bound(), 149, 4, Kit.text(text));
        byte[] other = Kit.seal(0, 150).named(ADA).by(ADA, Kit.text("one"));
        lookIs("a seal of type 0", bound(), 150, -1, Kit.text(clear("", "one\n", other)));
        lookIs("no seal", bound(), 150, -1, Kit.text(clear("", "one\n", new byte[0])));
        lookIs("two seals", bound(), 150, -1 - sealOf("one").length, Kit.text(clear("", "one\n", Kit.cat(sealOf("one"), sealOf("one")))));
        byte[] whole = Kit.cat(front(1, 8), Kit.packet(11, letter('b', "", Kit.text("one"))), sealOf("one"));
        lookIs("a letter in it", bound(), 150, -1, Kit.text(clear("", "one\n", whole)));
    }

    private static void lineIs(String what, String before, String behind) {
        lookIs(what, bound(), 150, -100000 - before.length(), Kit.text(before + behind));
    }

    private static void wrongClearText() {
        SignetRing x = bound();
        String begin = "-----BEGIN SEALED TEXT-----\n";
        String signs = new String(Kit.signs("SEAL", sealOf("one")), java.nio.charset.StandardCharsets.ISO_8859_1);
        lineIs("no empty line", begin, "one\n" + signs);
        lineIs("nothing more", begin, "");
        lineIs("heads alone", begin + "a: b\n", "");
        lineIs("no text", begin + "\n", "");
        lineIs("no seal", begin + "\none\n", "");
        lineIs("no seal, no 10", begin + "\none", "");
        for (String line : new String[] {"-", "--", "-a", "-\t", "-----BEGIN SEALED KEYS-----", "-----BEGIN SEALED TEXT-----",
            "-----BEGIN SEAL----", "-----END SEAL-----", "-----BEGIN SEALED LETTER-----", "-----BEGIN SEAL-----x"}) {
            lineIs("the line " + line, begin + "\none\n", line + "\n" + signs);
        }
        lineIs("a line behind", begin + "\none\n" + signs, "x\n");
        lineIs("an empty line, a line behind", begin + "\none\n" + signs + "\n", "x\n");
        int sum = signs.indexOf("\n=") + 1;
        lineIs("another sum", begin + "\none\n" + signs.substring(0, sum), "=AAAA\n-----END SEAL-----\n");
        int end = signs.indexOf("-----END");
        lineIs("another label", begin + "\none\n" + signs.substring(0, end), "-----END SEALED TEXT-----\n");
        lineIs("no end", begin + "\none\n" + signs.substring(0, end), "");
        int data = signs.indexOf("\n\n") + 2;
        lineIs("wrong signs", begin + "\none\n" + signs.substring(0, data), "?" + signs.substring(data));
        lookIs("another first line", bound(), 150, -100000, Kit.text("-----BEGIN SEALED TEXT----\n\none\n" + signs));
        lookIs("join of clear text", bound(), 150, 0, Kit.text(begin + "\none\n" + signs));
        Kit.due("join of clear text", () -> Kit.join(x, Kit.text(begin + "\none\n" + signs)), -100000);
    }

    private static void inSigns() {
        for (String label : new String[] {"SEALED KEYS", "SEAL", "SEALED LETTER"}) {
            lookIs("a seal in signs", bound(), 150, 0, Kit.signs(label, DETACHED));
            lookIs("a letter in signs", bound(), 150, 0, Kit.signs(label, Kit.cat(front(0, 8), BINARY, SEALED)));
            lookIs("a fault in signs", bound(), 150, -1 - DETACHED.length, Kit.signs(label, Kit.cat(DETACHED, DETACHED)));
        }
    }

    private static void nothingChanges() {
        SignetRing x = bound();
        Kit.due("export", () -> x.export(0), BOUND.length);
        lookIs("a letter", x, 150, 0, front(0, 8), BINARY, SEALED);
        Kit.due("clear text", () -> Kit.look(x, 150, Kit.text(clear("", "one\n", sealOf("one")))), 0);
        Kit.due("a fault", () -> Kit.look(x, 150, Kit.row(1)), -100000);
        Kit.due("the document told before stays", () -> Kit.look(x, 150, DETACHED), 0);
        Kit.due("and its hash", () -> x.hash(1, 5), Kit.hash(2, DOCUMENT)[5] & 255);
        Kit.outIs("the out stays", x, BOUND);
        Kit.due("the keys stay", x::keys, 1);
    }
}
