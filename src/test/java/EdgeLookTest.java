import java.nio.charset.StandardCharsets;
import java.util.Arrays;

/** Edges of what is looked at: a seal, a letter, clear text, and what it comes to; promise 5 look. */
public final class EdgeLookTest {
    private static final long LAST = 0xffffffffL;
    private static final Kit.Pair ADA = new Kit.Pair(497, 3, 1000, 1);
    private static final Kit.Pair BO = new Kit.Pair(497, 3, 1000, 2);
    private static final Kit.Pair SUB = new Kit.Pair(497, 5, 1100, 3);
    private static final byte[] TOLD = Kit.text("told");
    private static final byte[] TEXT = Kit.text("another\none");
    private static final byte[] BOUND = Kit.cat(ADA.key(), Kit.seal(0x1f, 1000).by(ADA, Kit.thing(ADA)));
    private static final byte[] APART = Kit.seal(0, 2000).named(ADA).by(ADA, TOLD);
    private static final byte[] FRONT = front(0, 8);
    private static final byte[] LETTER = Kit.packet(11, letter('b', 0, TEXT));
    private static final byte[] SEAL = Kit.seal(0, 2000).named(ADA).by(ADA, TEXT);
    private static final int AT_LETTER = -1 - FRONT.length;
    private static final int AT_SEAL = AT_LETTER - LETTER.length;
    private static final int AT_END = AT_SEAL - SEAL.length;
    private static final String BEGIN = "-----BEGIN SEALED TEXT-----\n";

    public static void main(String[] args) {
        nothing();
        sealTypes();
        wrongSeals();
        behindASeal();
        frontBytes();
        frontOfAnotherSeal();
        letterForms();
        letterNames();
        letterBytes();
        letterLengths();
        letterParts();
        lastParts();
        partsThatAreNone();
        missing();
        wrongKinds();
        verdictOne();
        verdictTwo();
        firstOfAlike();
        verdictThree();
        verdictFour();
        whatTheKeyIs();
        orderOfVerdicts();
        clearLines();
        clearBlanks();
        clearDashes();
        clearHead();
        clearMissing();
        clearSeal();
        clearRest();
        toldStays();
        oneAfterTheOther();
        Kit.done();
    }

    private static byte[] front(int type, int hash) {
        return Kit.packet(4, Kit.cat(Kit.row(3, type, hash, 1), new byte[8], Kit.row(1)));
    }

    private static byte[] letter(int form, int name, byte[] document) {
        return Kit.cat(Kit.row(form, name), new byte[name], Kit.row(9, 8, 7, 6), document);
    }

    private static Run run(String sentence) {
        return new Run(sentence).join(1, BOUND).document(TOLD);
    }

    private static void is(String sentence, long want, byte[]... packets) {
        run(sentence).look(want, 2000, packets).documentIs(0);
        if (Kit.cat(packets).length > 0 && Kit.cat(packets)[0] < 0) {
            run(sentence + " (in signs)").look(want, 2000, Kit.signs("SEALED LETTER", Kit.cat(packets))).documentIs(0);
        }
    }

    private static void nothing() {
        is("no bytes", -1);
        run("no bytes in signs").look(-1, 2000, Kit.signs("SEAL", new byte[0]));
    }

    private static void sealTypes() {
        for (int type = 0; type < 256; type++) {
            byte[] thing = type == 1 ? Kit.lines(TOLD) : TOLD;
            is("a seal of type 0 or 1, not " + type, type <= 1 ? 0 : -1, Kit.seal(type, 2000).named(ADA).by(ADA, thing));
        }
    }

    private static void wrongSeals() {
        is("a seal", 0, APART);
        byte[] body = Kit.cut(APART, 2, APART.length);
        is("one that would be passed is wrong", -1, Kit.packet(2, Kit.with(body, 0, 3)));
        is("one that would be passed is wrong", -1, Kit.packet(2, Kit.with(body, 2, 2)));
        is("one that would be passed is wrong", -1, Kit.packet(2, Kit.with(body, 3, 10)));
        is("one that would be passed is wrong", -1, Kit.packet(2, Kit.row(3)));
        is("of no bytes", -1, Kit.packet(2, new byte[0]));
        for (int size = 0; size < body.length; size += 3) {
            is("a seal that has only " + size + " bytes", -1, Kit.packet(2, Kit.cut(body, 0, size)));
            is("a seal that is not all there", -1, Kit.row(194, body.length), Kit.cut(body, 0, size));
        }
        is("a seal with a byte behind", -1, Kit.packet(2, Kit.cat(body, Kit.row(0))));
    }

    private static void behindASeal() {
        for (byte[] behind : new byte[][] {Kit.row(0), Kit.row(255), APART, FRONT, Kit.packet(12, Kit.row(1)), Kit.packet(63, Kit.row()), ADA.key()}) {
            is("nothing behind a seal", -1 - APART.length, APART, behind);
            is("nothing behind a letter's seal", AT_END, FRONT, LETTER, SEAL, behind);
        }
    }

    private static void frontBytes() {
        byte[] body = Kit.cut(FRONT, 2, 15);
        is("a front", 0, FRONT, LETTER, SEAL);
        for (int size = 0; size < 13; size++) {
            is("a front of " + size + " bytes", -1, Kit.packet(4, Kit.cut(body, 0, size)), LETTER, SEAL);
        }
        is("a front of 14 bytes", -1, Kit.packet(4, Kit.cat(body, Kit.row(1))), LETTER, SEAL);
        for (int place : new int[] {0, 3, 12}) {
            for (int value : new int[] {0, 1, 2, 3, 4, 255}) {
                boolean right = value == body[place];
                is("byte " + place + " of a front", right ? 0 : -1, Kit.packet(4, Kit.with(body, place, value)), LETTER, SEAL);
            }
        }
        for (int place = 4; place < 12; place++) {
            for (int value : new int[] {1, 255}) {
                is("the eight, which are any", 0, Kit.packet(4, Kit.with(body, place, value)), LETTER, SEAL);
            }
        }
    }

    private static void frontOfAnotherSeal() {
        for (int value = 0; value < 256; value += value < 12 ? 1 : 27) {
            is("the seal's type, not " + value, value == 0 ? 0 : AT_SEAL, front(value, 8), LETTER, SEAL);
            is("the seal's hash, not " + value, value == 8 ? 0 : AT_SEAL, front(0, value), LETTER, SEAL);
        }
        byte[] lines = Kit.seal(1, 2000).first().named(ADA).by(ADA, Kit.lines(TEXT));
        is("the seal's type and hash", 0, front(1, 2), LETTER, lines);
        is("the seal's type and hash", AT_SEAL, front(0, 2), LETTER, lines);
        is("the seal's type and hash", AT_SEAL, front(1, 8), LETTER, lines);
        byte[] other = Kit.seal(0x10, 2000).named(ADA).by(ADA, TEXT);
        is("a seal of another type than 0 or 1", AT_SEAL, front(0x10, 8), LETTER, other);
        is("a wrong letter before another seal", AT_LETTER, front(1, 8), Kit.packet(11, Kit.row('b')), SEAL);
    }

    private static void letterForms() {
        for (int form = 0; form < 256; form++) {
            boolean right = form == 'b' || form == 't' || form == 'u';
            is("b, t or u, not " + form, right ? 0 : AT_LETTER, FRONT, Kit.packet(11, letter(form, 0, TEXT)), SEAL);
        }
    }

    private static void letterNames() {
        for (int name : new int[] {0, 1, 2, 127, 128, 254, 255}) {
            is("a length, so many bytes: " + name, 0, FRONT, Kit.packet(11, letter('b', name, TEXT)), SEAL);
        }
    }

    private static void letterBytes() {
        byte[] empty = Kit.seal(0, 2000).named(ADA).by(ADA, new byte[0]);
        byte[] one = Kit.seal(0, 2000).named(ADA).by(ADA, Kit.row(5));
        for (int name : new int[] {0, 1, 255}) {
            byte[] whole = letter('b', name, new byte[0]);
            is("an empty document, name of " + name, 0, FRONT, Kit.packet(11, whole), empty);
            is("a document of a byte, name of " + name, 0, FRONT, Kit.packet(11, Kit.cat(whole, Kit.row(5))), one);
            for (int less = 1; less <= whole.length; less += less < 7 ? 1 : 50) {
                is("a letter that has " + less + " bytes too few", AT_LETTER, FRONT, Kit.packet(11, Kit.cut(whole, 0, whole.length - less)), empty);
            }
        }
        is("a letter of no bytes", AT_LETTER, FRONT, Kit.packet(11, new byte[0]), empty);
    }

    private static byte[] sealOf(byte[] document) {
        return Kit.seal(0, 2000).named(ADA).by(ADA, document);
    }

    private static void letterLengths() {
        for (int size : new int[] {184, 185, 186, 187, 249, 250, 441, 442, 1500}) {
            byte[] document = new byte[size];
            byte[] body = letter('b', 0, document);
            is("a letter of " + size, 0, FRONT, Kit.packet(11, body), sealOf(document));
            is("a letter of " + size + " in four bytes", 0, FRONT, Kit.row(192 | 11, 255), Kit.big(body.length, 4), body, sealOf(document));
            is("a letter of " + size + " without the bit 64", 0, FRONT, Kit.row(128 | 11 << 2 | 1), Kit.big(body.length, 2), body, sealOf(document));
            is("a letter of a byte too much", AT_LETTER, FRONT, Kit.row(192 | 11, 255), Kit.big(body.length + 1, 4), body);
        }
    }

    /** A letter's bytes as parts of these sizes' powers of 2, and the rest with this length. */
    private static byte[] inParts(byte[] body, byte[] lastLength, int... powers) {
        byte[] packet = Kit.row(192 | 11);
        int from = 0;
        for (int power : powers) {
            packet = Kit.cat(packet, Kit.row(224 + power), Kit.cut(body, from, from + (1 << power)));
            from += 1 << power;
        }
        return Kit.cat(packet, lastLength, Kit.cut(body, from, body.length));
    }

    private static void letterParts() {
        for (int power = 0; power <= 10; power++) {
            byte[] document = new byte[(1 << power) + 50];
            byte[] body = letter('b', 0, document);
            byte[] rest = Kit.row(body.length - (1 << power));
            is("a part of 2^" + power, 0, FRONT, inParts(body, rest, power), sealOf(document));
        }
        byte[] body = letter('b', 3, new byte[30]);
        byte[] seal = sealOf(new byte[30]);
        is("several parts", 0, FRONT, inParts(body, Kit.row(body.length - 16), 3, 0, 0, 1, 2), seal);
        is("parts of one byte each", 0, FRONT, inParts(body, Kit.row(body.length - 5), 0, 0, 0, 0, 0), seal);
        byte[] all = inParts(body, Kit.row(body.length - 5), 0, 0, 0, 0, 0);
        for (int size = 1; size < all.length; size++) {
            is("a letter in parts that is not all there", AT_LETTER, FRONT, Kit.cut(all, 0, size));
        }
        for (int power = 6; power <= 30; power++) {
            is("a part of 2^" + power + " that is not all there", AT_LETTER, FRONT, Kit.row(192 | 11, 224 + power), body);
        }
        is("without the bit 64 there are no parts", AT_LETTER, FRONT, Kit.row(128 | 11 << 2 | 3), body, seal);
        byte[] sealBody = Kit.cut(seal, 2, seal.length);
        is("a seal has no parts", AT_LETTER - 2 - body.length, FRONT, Kit.packet(11, body), Kit.row(192 | 2, 224), Kit.cut(sealBody, 0, 1),
            Kit.row(sealBody.length - 1), Kit.cut(sealBody, 1, sealBody.length));
        byte[] frontBody = Kit.cut(FRONT, 2, 15);
        is("a front has no parts", -1, Kit.row(192 | 4, 224), Kit.cut(frontBody, 0, 1), Kit.row(12), Kit.cut(frontBody, 1, 13), LETTER, SEAL);
    }

    private static void lastParts() {
        for (int rest : new int[] {0, 1, 191, 192, 193, 447, 448}) {
            byte[] document = new byte[rest + 2];
            byte[] body = letter('b', 0, document);
            is("a last part of " + rest, 0, FRONT, inParts(body, Kit.length(rest), 3), sealOf(document));
            byte[] four = Kit.cat(Kit.row(255), Kit.big(rest, 4));
            is("a last part of " + rest + " in four bytes", 0, FRONT, inParts(body, four, 3), sealOf(document));
        }
        byte[] body = letter('b', 0, new byte[2]);
        is("the last part is missing", AT_LETTER, FRONT, inParts(body, new byte[0], 3));
        is("the last part is half a length", AT_LETTER, FRONT, inParts(body, Kit.row(192), 3));
        is("the last part is not all there", AT_LETTER, FRONT, inParts(body, Kit.row(1), 3));
        is("the last part's length is huge", AT_LETTER, FRONT, inParts(body, Kit.row(255, 255, 255, 255, 255), 3), sealOf(new byte[2]));
    }

    private static void partsThatAreNone() {
        byte[] body = letter('b', 0, new byte[2]);
        byte[] whole = Kit.cat(FRONT, Kit.row(192 | 11, 227), body);
        for (int power = 7; power <= 30; power++) {
            is("a second part of 2^" + power + " that is not all there", AT_LETTER, whole, Kit.row(224 + power), sealOf(new byte[2]));
        }
        byte[] four = Kit.cat(Kit.row(255), Kit.big(body.length, 4), body);
        is("223 is the first byte of two", AT_LETTER, FRONT, Kit.row(192 | 11, 223), four, sealOf(new byte[2]));
        is("224 is a part", 0, FRONT, Kit.row(192 | 11, 224), Kit.cut(body, 0, 1), Kit.row(255), Kit.big(body.length - 1, 4),
            Kit.cut(body, 1, body.length), sealOf(new byte[2]));
    }

    private static void missing() {
        is("the number of all, where the letter is missing", AT_LETTER, FRONT);
        is("the number of all, where the seal is missing", AT_SEAL, FRONT, LETTER);
        is("nothing is missing", 0, FRONT, LETTER, SEAL);
    }

    private static void wrongKinds() {
        for (int kind = 0; kind < 64; kind++) {
            byte[] any = Kit.packet(kind, Kit.row(1, 2));
            if (kind != 2 && kind != 4) {
                is("kinds 4, 11, 2: not first " + kind, -1, any, LETTER, SEAL);
            }
            is("kinds 4, 11, 2: not second " + kind, AT_LETTER, FRONT, any, SEAL);
            is("kinds 4, 11, 2: not third " + kind, AT_SEAL, FRONT, LETTER, any);
            // what stands in the packet would be right in one of the right kind
            byte[] asLetter = Kit.packet(kind, letter('b', 0, TEXT));
            is("a letter is of kind 11, not " + kind, kind == 11 ? 0 : AT_LETTER, FRONT, asLetter, SEAL);
            byte[] asSeal = Kit.packet(kind, Kit.cut(SEAL, 2, SEAL.length));
            is("a seal is of kind 2, not " + kind, kind == 2 ? 0 : AT_SEAL, FRONT, LETTER, asSeal);
            is("a seal is of kind 2, not " + kind, kind == 2 ? 0 : -1, Kit.packet(kind, Kit.cut(APART, 2, APART.length)));
            byte[] asFront = Kit.packet(kind, Kit.cut(FRONT, 2, FRONT.length));
            is("a front is of kind 4, not " + kind, kind == 4 ? 0 : -1, asFront, LETTER, SEAL);
        }
        is("a seal for the letter", AT_LETTER, FRONT, SEAL);
        is("a letter alone", -1, LETTER);
        is("a letter for the front", -1, LETTER, SEAL);
        is("two fronts", AT_LETTER, FRONT, FRONT, LETTER, SEAL);
        is("two letters", AT_SEAL, FRONT, LETTER, LETTER, SEAL);
    }

    private static void verdict(String sentence, long want, long t, Kit.Making making, Kit.Pair by) {
        run(sentence).look(want, t, making.by(by, TOLD));
        run(sentence + " (a letter)").look(want, t, FRONT, LETTER, making.by(by, TEXT));
    }

    private static Kit.Making made(long made) {
        return Kit.seal(0, made);
    }

    private static void verdictOne() {
        verdict("1 the seal is vain", 1, 2000, new Kit.Making(0).named(ADA), ADA);
        verdict("1 the seal is vain", 1, 2000, made(2000).sealed(Kit.note(128)).named(ADA), ADA);
        verdict("1 has no note 16 or 33", 1, 2000, made(2000), ADA);
        verdict("has a note 16", 0, 2000, made(2000).named(ADA), ADA);
        verdict("has a note 33", 0, 2000, made(2000).printed(ADA), ADA);
        verdict("has both", 0, 2000, made(2000).printed(ADA).named(ADA), ADA);
    }

    private static void verdictTwo() {
        verdict("2 no key has its name", 2, 2000, made(2000).named(BO), BO);
        verdict("2 no key has its print", 2, 2000, made(2000).printed(BO), BO);
        verdict("2 no key has its print, though its name", 2, 2000, made(2000).printed(BO).named(ADA), ADA);
        verdict("the print, not the name", 0, 2000, made(2000).printed(ADA).named(BO), ADA);
        for (int i = 0; i < 20; i++) {
            byte[] near = Kit.with(ADA.print, i, ADA.print[i] ^ 1);
            verdict("2 byte " + i + " of the print", 2, 2000, made(2000).sealed(Kit.note(33, Kit.cat(Kit.row(4), near))), ADA);
            if (i < 8) {
                byte[] name = Kit.with(ADA.name(), i, ADA.name()[i] ^ 128);
                verdict("2 byte " + i + " of the name", 2, 2000, made(2000).other(Kit.note(16, name)), ADA);
            }
        }
        new Run("2 a ring without keys").document(TOLD).look(2, 2000, APART);
        new Run("2 a key that was dropped").join(1, BOUND).drop(0, 0).document(TOLD).look(2, 2000, APART);
    }

    private static byte[] partOf(Kit.Pair key, int uses) {
        byte[] thing = Kit.thing(key, SUB);
        byte[] inside = Kit.note(32, Kit.seal(0x19, 1100).body(SUB, thing));
        return Kit.cat(SUB.part(), Kit.seal(0x18, 1100).uses(uses).sealed(inside).by(key, thing));
    }

    private static void firstOfAlike() {
        byte[] seal = made(2000).named(SUB).by(SUB, TOLD);
        byte[] printed = made(2000).printed(SUB).by(SUB, TOLD);
        byte[] bo = Kit.cat(BO.key(), Kit.seal(0x1f, 1000).by(BO, Kit.thing(BO)));
        byte[] sub = Kit.cat(SUB.key(), Kit.seal(0x1f, 1100).by(SUB, Kit.thing(SUB)));
        for (byte[] one : new byte[][] {seal, printed}) {
            new Run("a part of a later key").join(2, bo, BOUND, partOf(ADA, 2)).document(TOLD).look(0, 2000, one);
            new Run("the first one: a part").join(2, BOUND, partOf(ADA, 2), bo, partOf(BO, 1)).document(TOLD).look(0, 2000, one);
            new Run("the first one: a part").join(2, BOUND, partOf(ADA, 1), bo, partOf(BO, 2)).document(TOLD).look(15, 2000, one);
            new Run("the first one: a key").join(2, sub, BOUND, partOf(ADA, 1)).document(TOLD).look(0, 2000, one);
            new Run("the first one: a part before a key").join(2, BOUND, partOf(ADA, 1), sub).document(TOLD).look(15, 2000, one);
        }
    }

    private static void verdictThree() {
        verdict("3 it is not true by it", 3, 2000, made(2000).named(ADA), BO);
        run("3 another document").look(3, 2000, SEAL);
        run("3 another letter").look(3, 2000, FRONT, LETTER, APART);
        run("true").look(0, 2000, APART);
    }

    private static void verdictFour() {
        verdict("4 it was made after t", 4, 1999, made(2000).named(ADA), ADA);
        verdict("made at t", 0, 2000, made(2000).named(ADA), ADA);
        verdict("4 it has ended", 4, 2010, made(2000).lasts(10).named(ADA), ADA);
        verdict("not ended yet", 0, 2009, made(2000).lasts(10).named(ADA), ADA);
        verdict("4 it has ended", 4, 2001, made(2000).lasts(1).named(ADA), ADA);
        verdict("0 never", 0, LAST, made(2000).lasts(0).named(ADA), ADA);
        verdict("4 ended at the last time", 4, LAST, made(2000).lasts(LAST - 2000).named(ADA), ADA);
        verdict("beyond the last time", 0, LAST, made(2000).lasts(LAST - 1999).named(ADA), ADA);
        verdict("made at the last time", 0, LAST, made(LAST).lasts(LAST).named(ADA), ADA);
        verdict("4 made at the last time", 4, LAST - 1, made(LAST).named(ADA), ADA);
        verdict("made before the key", 0, 2000, made(0).named(ADA), ADA);
    }

    private static void whatTheKeyIs() {
        byte[] thing = Kit.thing(ADA);
        byte[] early = made(0).named(ADA).by(ADA, TOLD);
        run("11 not yet").look(11, 999, early).look(0, 1000, early);
        new Run("12 ended").join(1, ADA.key(), Kit.seal(0x1f, 1000).keyLasts(5).by(ADA, thing)).document(TOLD).look(0, 1004, early).look(12, 1005, early);
        new Run("13 revoked").join(1, BOUND, Kit.seal(0x20, 1005).why(1).by(ADA, thing)).document(TOLD).look(0, 1004, early).look(13, 1005, early);
        new Run("14 unbound").join(1, ADA.key(), Kit.seal(0x1f, 1005).by(ADA, thing)).document(TOLD).look(14, 1004, early).look(0, 1005, early);
        new Run("15 not to seal").join(1, BOUND, Kit.seal(0x1f, 1005).uses(1).by(ADA, thing)).document(TOLD).look(0, 1004, early).look(15, 1005, early);
        byte[] loose = Kit.cat(SUB.part(), Kit.seal(0x18, 1105).uses(2).by(ADA, Kit.thing(ADA, SUB)));
        byte[] bySub = made(0).named(SUB).by(SUB, TOLD);
        new Run("16 not backed").join(1, BOUND, partOf(ADA, 2), loose).document(TOLD).look(11, 1099, bySub).look(0, 1104, bySub).look(16, 1105, bySub);
        new Run("what the part is, not the key").join(1, BOUND, SUB.part()).document(TOLD).look(14, 1100, bySub).look(0, 1100, early);
    }

    private static void orderOfVerdicts() {
        verdict("1 before 2", 1, 2000, new Kit.Making(0).named(BO), ADA);
        verdict("1 before 3", 1, 2000, new Kit.Making(0).named(ADA), BO);
        verdict("2 before 3", 2, 2000, made(2000).named(BO), ADA);
        verdict("2 before 4", 2, 1999, made(2000).named(BO), BO);
        verdict("3 before 4", 3, 1999, made(2000).named(ADA), BO);
        verdict("4 before 11", 4, 500, made(2000).named(ADA), ADA);
        verdict("3 before 11", 3, 500, made(0).named(ADA), BO);
    }

    private static String signs(byte[] packets) {
        return new String(Kit.signs("SEAL", packets), StandardCharsets.ISO_8859_1);
    }

    private static byte[] clearSeal(String document) {
        return Kit.seal(1, 2000).named(ADA).by(ADA, Kit.lines(Kit.text(document)));
    }

    /** Lines of clear text, and the document that they stand for. */
    private static void clearIs(String sentence, String lines, String document) {
        run(sentence).look(0, 2000, Kit.text(BEGIN + "\n" + lines + signs(clearSeal(document)))).documentIs(0);
        run(sentence + ", another one").look(3, 2000, Kit.text(BEGIN + "\n" + lines + signs(clearSeal(document + "\n")))).documentIs(0);
    }

    private static void clearWrong(String sentence, String before, String behind) {
        run(sentence).look(-100000 - before.length(), 2000, Kit.text(before + behind)).documentIs(0);
    }

    private static void clearLines() {
        clearIs("no lines", "", "");
        clearIs("an empty line", "\n", "");
        clearIs("two empty lines", "\n\n", "\n");
        clearIs("one line", "a\n", "a");
        clearIs("10 between them (none behind the last)", "a\nb\n", "a\nb");
        clearIs("an empty last line", "a\n\n", "a\n");
        clearIs("an empty first line", "\na\n", "\na");
        clearIs("a line with a colon", "a: b\n", "a: b");
        clearIs("bytes of all sorts", "\u0000\u0001\u007f\u0080\u00ff\n", "\u0000\u0001\u007f\u0080\u00ff");
    }

    private static void clearBlanks() {
        for (String blanks : new String[] {" ", "\t", "\r", " \t\r", "\r\r  "}) {
            clearIs("without blanks 9, 13 and 32 at their ends", "a" + blanks + "\nb" + blanks + "\n", "a\nb");
            clearIs("a line of blanks", blanks + "\n", "");
            clearIs("blanks inside", "a" + blanks + "b\n", "a" + blanks + "b");
            clearIs("blanks in front", blanks + "b\n", blanks + "b");
        }
        for (int other : new int[] {0, 11, 12, 8, 14, 31, 33, 133, 160}) {
            clearIs("no blank: " + other, "a" + (char) other + "\n", "a" + (char) other);
        }
    }

    private static void clearDashes() {
        clearIs("- and a blank", "- a\n", "a");
        clearIs("- and a blank, then nothing", "- \n", "");
        clearIs("- and blanks, then nothing", "-  \t\r\n", "");
        clearIs("- and two blanks", "-  a\n", " a");
        clearIs("these two alone", "- - a\n- -\n", "- a\n-");
        clearIs("a line like the seal's first", "- -----BEGIN SEAL-----\n", "-----BEGIN SEAL-----");
        clearIs("a - inside", "a- b\n -\n", "a- b\n -");
        for (String bad : new String[] {"-", "--", "-a", "-\t", "-\r", "-\ta", "-- a", "-----", "-----BEGIN SEALED TEXT-----", "-----BEGIN SEALED KEYS-----",
            "-----BEGIN SEALED LETTER-----", "-----BEGIN SEAL----", "-----BEGIN SEAL------", "-----END SEAL-----", "-----BEGIN  SEAL-----"}) {
            clearWrong("others that begin with - are wrong: " + bad, BEGIN + "\n", bad + "\n" + signs(clearSeal("")));
            clearWrong("others that begin with - are wrong: " + bad, BEGIN + "\na\n", bad + "\n" + signs(clearSeal("a")));
        }
    }

    private static void clearHead() {
        String rest = "\na\n" + signs(clearSeal("a"));
        for (String head : new String[] {"", "a: b\n", "Hash: SHA256\n", "a: b\nc: d\n: e\n"}) {
            run("lines with colons").look(0, 2000, Kit.text(BEGIN + head + rest));
        }
        for (String bad : new String[] {"a", "a:b", "a:", "a: ", "-----BEGIN SEAL-----"}) {
            clearWrong("a line without a colon", BEGIN, bad + "\n" + rest);
            clearWrong("a line without a colon", BEGIN + "a: b\n", bad + "\n" + rest);
        }
        run("blanks at the end of the first line").look(0, 2000, Kit.text(BEGIN.trim() + " \t\r\n" + rest));
        for (String first : new String[] {"-----BEGIN SEALED TEXT----", "-----BEGIN SEALED TEXT------", "-----BEGIN  SEALED TEXT-----", "-----BEGIN SEALED TEXTS-----",
            "----BEGIN SEALED TEXT-----", "-----BEGIN SEALED TEXT-----x", " -----BEGIN SEALED TEXT-----"}) {
            clearWrong("another first line", "", first + "\n" + rest);
        }
    }

    private static void clearMissing() {
        String[] heads = {BEGIN, BEGIN + "a: b\n", BEGIN + "\n", BEGIN + "\na\n", BEGIN + "\na\n\n", BEGIN + "\na\n-----BEGIN SEAL-----\n",
            BEGIN + "\na\n-----BEGIN SEAL-----\n\n", BEGIN + "\na\n-----BEGIN SEAL-----\n\n=twTO\n"};
        for (String head : heads) {
            clearWrong("the place of the end, if a line is missing", head, "");
        }
        for (String head : new String[] {BEGIN.trim(), BEGIN + "\na", BEGIN + "\na\n-----BEGIN SEAL-----"}) {
            clearWrong("the place of the end, if a line is missing", head, "");
        }
    }

    private static void clearSeal() {
        String text = BEGIN + "\na\n";
        byte[] seal = clearSeal("a");
        run("the seal's type is 1").look(0, 2000, Kit.text(text + signs(seal)));
        run("else its packet is wrong").look(-1, 2000, Kit.text(text + signs(Kit.seal(0, 2000).named(ADA).by(ADA, Kit.text("a")))));
        run("else its packet is wrong").look(-1, 2000, Kit.text(text + signs(Kit.seal(2, 2000).named(ADA).by(ADA, Kit.text("a")))));
        run("no seal").look(-1, 2000, Kit.text(text + signs(new byte[0])));
        run("one that would be passed").look(-1, 2000, Kit.text(text + signs(Kit.packet(2, Kit.row(3)))));
        run("a packet behind").look(-1 - seal.length, 2000, Kit.text(text + signs(Kit.cat(seal, Kit.packet(12, Kit.row(1))))));
        byte[] whole = Kit.cat(front(1, 8), Kit.packet(11, letter('b', 0, Kit.text("a"))), seal);
        run("a letter in it").look(-1, 2000, Kit.text(text + signs(whole)));
        String spoilt = signs(seal);
        int sum = spoilt.indexOf("\n=") + 1;
        clearWrong("another sum", text + spoilt.substring(0, sum), "=AAAA" + spoilt.substring(sum + 5));
        int end = spoilt.indexOf("-----END");
        clearWrong("another label at the end", text + spoilt.substring(0, end), "-----END SEALED KEYS-----\n");
        int body = spoilt.indexOf("\n\n") + 2;
        clearWrong("a wrong line of signs", text + spoilt.substring(0, body), "A" + spoilt.substring(body));
        run("lines with colons in the seal").look(0, 2000, Kit.text(text + spoilt.replaceFirst("\n", "\na: b\n")));
        clearWrong("a line without a colon in the seal", text + "-----BEGIN SEAL-----\n", "a\n" + spoilt.substring(body - 1));
    }

    private static void clearRest() {
        String text = BEGIN + "\na\n" + signs(clearSeal("a"));
        run("no 10 at the end").look(0, 2000, Kit.text(text.substring(0, text.length() - 1)));
        run("empty lines behind").look(0, 2000, Kit.text(text + "\n \n\t\r\n"));
        clearWrong("a line behind", text, "x");
        clearWrong("a line behind", text + "\n", text);
        run("what it comes to: 4").look(4, 1999, Kit.text(text));
        run("what it comes to: 14").drop(0, 0).join(1, ADA.key()).look(14, 2000, Kit.text(text));
        run("what it comes to: 2").drop(0, 0).look(2, 2000, Kit.text(text));
    }

    private static void toldStays() {
        String text = BEGIN + "\na\n" + signs(clearSeal("a"));
        run("the document told before stays").look(0, 2000, FRONT, LETTER, SEAL).look(0, 2000, Kit.text(text)).look(-1, 2000, Kit.row(255))
            .look(0, 2000, APART).documentHas(TOLD);
        byte[] empty = sealOf(new byte[0]);
        new Run("an empty document").join(1, BOUND).look(0, 2000, empty).look(3, 2000, APART);
        byte[] whole = new byte[2000];
        Arrays.fill(whole, (byte) '\n');
        new Run("a document of 2,000 lines").join(1, BOUND).document(whole).look(0, 2000, Kit.seal(1, 2000).named(ADA).by(ADA, Kit.lines(whole)))
            .look(0, 2000, sealOf(whole));
    }

    /** What was looked at before leaves nothing behind. */
    private static void oneAfterTheOther() {
        byte[] two = letter('b', 0, new byte[2]);
        byte[] inParts = Kit.cat(FRONT, inParts(two, Kit.row(0), 3), sealOf(new byte[2]));
        run("a letter in parts after another").look(0, 2000, inParts).look(0, 2000, inParts).look(0, 2000, FRONT, LETTER, SEAL)
            .look(-1 - FRONT.length, 2000, FRONT, Kit.row(192 | 11, 227), two).look(0, 2000, inParts).look(0, 2000, APART);
        String a = BEGIN + "\na\n" + signs(clearSeal("a"));
        String none = BEGIN + "\n" + signs(clearSeal(""));
        run("clear text after another").look(0, 2000, Kit.text(a)).look(0, 2000, Kit.text(none)).look(0, 2000, Kit.text(a))
            .look(-100000 - BEGIN.length() - 3, 2000, Kit.text(BEGIN + "\na\n-")).look(0, 2000, Kit.text(a)).look(0, 2000, APART);
        byte[] inSigns = Kit.signs("SEAL", APART);
        run("signs after others").look(0, 2000, inSigns).look(0, 2000, inSigns).look(-1, 2000, Kit.signs("SEAL", new byte[0]))
            .look(0, 2000, Kit.signs("SEAL", Kit.cat(FRONT, LETTER, SEAL))).look(0, 2000, APART).look(0, 2000, inSigns);
            byte[] vain = made(2000).sealed(Kit.note(128)).named(ADA).by(ADA, TOLD);
        byte[] ends = made(1990).lasts(10).named(ADA).by(ADA, TOLD);
        byte[] nameless = made(2000).by(ADA, TOLD);
        byte[] noTime = new Kit.Making(0).named(ADA).by(ADA, TOLD);
        byte[] byPrint = made(2000).printed(ADA).by(ADA, TOLD);
        byte[] others = made(2000).printed(BO).by(ADA, TOLD);
        byte[][] seals = {APART, vain, ends, nameless, noTime, byPrint, others};
        long[] due = {0, 1, 4, 1, 1, 0, 2};
        Run x = run("a seal after another");
        for (int i = 0; i < 7; i++) {
            x.look(due[i], 2000, seals[i]).look(0, 3000, APART);
        }
        Run y = run("a seal after another");
        for (int i = 6; i >= 0; i--) {
            y.look(due[i], 2000, seals[i]).look(due[(i + 3) % 7], 2000, seals[(i + 3) % 7]);
        }
    }
}
