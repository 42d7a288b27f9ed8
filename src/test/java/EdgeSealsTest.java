import java.math.BigInteger;

/** Edges of seals and their notes, and of what makes a seal vain or true: promises 3 join, 5 look, 9 usable. */
public final class EdgeSealsTest {
    private static final Kit.Pair ADA = new Kit.Pair(512, 65537, 100, 1);
    private static final Kit.Pair BO = new Kit.Pair(497, 3, 100, 2);
    private static final Kit.Pair SUB = new Kit.Pair(504, 17, 100, 3);
    private static final byte[] KEY = Kit.packet(6, Run.anyKey(7));
    private static final int BEHIND = -1 - KEY.length;
    private static final byte[] OWN = Kit.thing(ADA);
    private static final byte[] TEXT = Kit.text("text");

    public static void main(String[] args) {
        fewBytes();
        otherVersions();
        otherHashes();
        passedIsNoPlace();
        lengthsOfNotes();
        noteLengths();
        notesThatDoNotFit();
        noteSizes();
        print33();
        lastSealedCounts();
        othersCount();
        graveNotes();
        sealedMade();
        vainSeals();
        belowN();
        frames();
        firstBytes();
        sizesOfN();
        lines();
        Kit.done();
    }

    private static final int WRONG = 0;
    private static final int PASSED = 1;
    private static final int READ = 2;

    /** A seal's bytes behind a key, behind a user, behind a part; and looked at, where one that is passed is wrong. */
    private static void is(String sentence, int what, byte[] body) {
        byte[][] places = {KEY, Kit.cat(KEY, Kit.user("u")), Kit.cat(KEY, Kit.packet(14, Run.anyKey(8)))};
        for (byte[] place : places) {
            Run x = new Run(sentence).join(what == WRONG ? -1 - place.length : 1, place, Kit.packet(2, body));
            x.keys(what == WRONG ? 0 : 1);
            if (what != WRONG) {
                x.key(what == READ ? 1 : 0, 0, 4);
            }
        }
        if (what != READ) {
            new Run(sentence + " (looked at)").look(-1, 5, Kit.packet(2, body));
        }
    }

    private static void fewBytes() {
        is("of no bytes it is wrong", WRONG, Kit.row());
        is("of fewer than four behind a 4", WRONG, Kit.row(4));
        is("of fewer than four behind a 4", WRONG, Kit.row(4, 0x10));
        is("of fewer than four behind a 4", WRONG, Kit.row(4, 0x10, 1));
        is("of fewer than four behind a 4", WRONG, Kit.row(4, 0x10, 2));
        is("where four bytes are there", WRONG, Kit.row(4, 0x10, 1, 8));
        is("where four bytes are there", PASSED, Kit.row(4, 0x10, 2, 8));
        is("where four bytes are there", PASSED, Kit.row(4, 0x10, 1, 3));
        byte[] whole = Kit.cut(Kit.idle(1), 2, 14);
        is("all bytes", READ, whole);
        for (int size = 4; size < whole.length; size++) {
            is("only " + size + " bytes", WRONG, Kit.cut(whole, 0, size));
        }
        is("a byte behind", WRONG, Kit.cat(whole, Kit.row(0)));
    }

    private static void otherVersions() {
        byte[] whole = Kit.cut(Kit.idle(1), 2, 14);
        for (int version = 0; version < 256; version++) {
            if (version != 4) {
                is("another version, one byte", PASSED, Kit.row(version));
                is("another version, whatever else stands there", PASSED, Kit.with(whole, 0, version));
            }
        }
        is("another version, two bytes", PASSED, Kit.row(3, 5));
        is("another version, three bytes", PASSED, Kit.row(5, 4, 4));
        is("this version", READ, whole);
    }

    private static void otherHashes() {
        byte[] whole = Kit.cut(Kit.idle(1), 2, 14);
        for (int value = 0; value < 256; value++) {
            is("another 1: " + value, value == 1 ? READ : PASSED, Kit.with(whole, 2, value));
            is("another hash: " + value, value == 2 || value == 8 ? READ : PASSED, Kit.with(whole, 3, value));
            is("another hash: " + value, value == 2 || value == 8 ? WRONG : PASSED, Kit.row(4, 0x10, 1, value, 255, 255));
            is("any type: " + value, READ, Kit.with(whole, 1, value));
        }
    }

    private static void passedIsNoPlace() {
        byte[] passed = Kit.packet(2, Kit.row(3));
        new Run("one that is passed").join(1, KEY, Kit.user("u"), passed, Kit.idle(1)).keyIs(0, 1, 0, 1, 0)
            .export(KEY.length + 3 + 14, 0).outIs(Kit.cat(KEY, Kit.user("u"), Kit.idle(1)));
    }

    private static byte[] body(byte[] sealed, byte[] others) {
        return Kit.cat(Kit.row(4, 0x10, 1, 8), Kit.big(sealed.length, 2), sealed, Kit.big(others.length, 2), others,
            Kit.row(1, 2, 0, 1, 1));
    }

    private static void lengthsOfNotes() {
        byte[] note = Kit.note(100, 1, 2, 3);
        byte[] right = body(note, note);
        is("no notes", READ, body(new byte[0], new byte[0]));
        is("notes of both sorts", READ, right);
        for (int length : new int[] {0, 1, 4, 6, 7, 255}) {
            is("a length of sealed notes of " + length, WRONG, Kit.with(right, 5, length));
            is("a length of other notes of " + length, WRONG, Kit.with(right, 12, length));
        }
        is("a length of sealed notes of 65535", WRONG, Kit.with(Kit.with(right, 4, 255), 5, 255));
        is("a length of other notes of 65535", WRONG, Kit.with(Kit.with(right, 11, 255), 12, 255));
        for (int size = 4; size < right.length; size++) {
            is("only " + size + " bytes", WRONG, Kit.cut(right, 0, size));
        }
    }

    private static void noteIs(String sentence, boolean right, byte[] note) {
        byte[] other = Kit.note(100, 9);
        byte[] none = new byte[0];
        is(sentence + " (sealed)", right ? READ : WRONG, body(note, none));
        is(sentence + " (not sealed)", right ? READ : WRONG, body(none, note));
        is(sentence + " (the last)", right ? READ : WRONG, body(Kit.cat(other, note), other));
        is(sentence + " (before others)", right ? READ : WRONG, body(other, Kit.cat(note, other)));
    }

    private static void noteLengths() {
        for (int size : new int[] {1, 2, 190, 191, 192, 193, 300, 447, 448}) {
            byte[] says = new byte[size - 1];
            noteIs("a note of length " + size, true, Kit.note(100, says));
            noteIs("a note of length " + size + " in four bytes", true, Kit.cat(Kit.row(255), Kit.big(size, 4), Kit.row(100), says));
        }
        // a byte of what it says could be read as a note of its own, if the length were another
        noteIs("a length of 0", false, Kit.row(0));
        noteIs("a length of 0", false, Kit.row(0, 1, 100));
        noteIs("a length of 0 in four bytes", false, Kit.row(255, 0, 0, 0, 0));
        noteIs("a length of 0 in four bytes", false, Kit.row(255, 0, 0, 0, 0, 1, 100));
        for (int first = 224; first < 255; first++) {
            noteIs("no parts", false, Kit.row(first, 100));
            noteIs("no parts", false, Kit.row(first, 0, 0, 0, 1, 100));
        }
    }

    private static void noteTooLong(String sentence, byte[] note) {
        byte[] none = new byte[0];
        is(sentence + " (sealed)", WRONG, body(note, none));
        is(sentence + " (not sealed)", WRONG, body(none, note));
        is(sentence + " (the last)", WRONG, body(Kit.cat(Kit.note(100, 9), note), none));
    }

    private static void notesThatDoNotFit() {
        noteTooLong("one byte more than there are", Kit.row(2, 100));
        noteTooLong("one byte more than there are", Kit.row(5, 100, 1, 2, 3));
        noteTooLong("a length alone", Kit.row(1));
        noteTooLong("half a length of two", Kit.row(192));
        noteTooLong("a length of two alone", Kit.row(192, 0));
        noteTooLong("a byte more than there are", Kit.cat(Kit.row(192, 0, 100), new byte[190]));
        for (int size = 1; size <= 5; size++) {
            noteTooLong("a part of a length of four", Kit.cut(Kit.row(255, 0, 0, 0, 1), 0, size));
        }
        noteTooLong("a byte more than there are", Kit.row(255, 0, 0, 0, 2, 100));
        for (long length : new long[] {0x7fffffffL, 0x80000000L, 0xffffffffL, 0xfffffffaL}) {
            noteTooLong("far more than there are", Kit.cat(Kit.row(255), Kit.big(length, 4), Kit.row(100)));
        }
    }

    private static void noteSizes() {
        for (int grave = 0; grave <= 128; grave += 128) {
            for (int size = 0; size <= 30; size++) {
                byte[] says = new byte[size];
                for (int kind : new int[] {2, 3, 9}) {
                    noteIs("note " + kind + " has 4 bytes, not " + size, size == 4, Kit.note(kind | grave, says));
                }
                noteIs("note 16 has 8 bytes, not " + size, size == 8, Kit.note(16 | grave, says));
                noteIs("note 27 has a byte, of " + size, size > 0, Kit.note(27 | grave, says));
                noteIs("note 29 has a byte, of " + size, size > 0, Kit.note(29 | grave, says));
                noteIs("note 32 is a seal, or not", true, Kit.note(32 | grave, says));
            }
        }
        for (int kind = 0; kind < 128; kind++) {
            boolean free = kind != 2 && kind != 3 && kind != 9 && kind != 16 && kind != 27 && kind != 29 && kind != 33;
            noteIs("note " + kind + " of no bytes", free, Kit.note(kind));
        }
    }

    private static void print33() {
        for (int size = 0; size <= 30; size++) {
            byte[] says = new byte[size];
            noteIs("note 33 of " + size + " bytes without 4", false, Kit.note(33, says));
            if (size > 0) {
                noteIs("note 33 of 21 bytes and 4, not " + size, size == 21, Kit.note(33, Kit.with(says, 0, 4)));
            }
        }
        for (int first = 0; first < 256; first++) {
            noteIs("note 33 with 4 first, not " + first, first == 4, Kit.note(33, Kit.with(new byte[21], 0, first)));
        }
    }

    private static Run bound(String sentence, Kit.Making... making) {
        Run x = new Run(sentence);
        byte[] seals = new byte[0];
        for (Kit.Making one : making) {
            seals = Kit.cat(seals, one.by(ADA, OWN));
        }
        return x.join(1, ADA.key(), seals);
    }

    private static Kit.Making bond() {
        return Kit.seal(0x1f, 100);
    }

    private static void lastSealedCounts() {
        byte[] soon = Kit.big(1, 4);
        byte[] late = Kit.big(50, 4);
        bound("of several notes 2 the last", Kit.seal(0x1f, 120).sealed(Kit.note(2, Kit.big(110, 4)))).usable(4, 0, -1, 109).usable(0, 0, -1, 110);
        bound("of several notes 2 the last", Kit.seal(0x1f, 110).sealed(Kit.note(2, Kit.big(120, 4)))).usable(4, 0, -1, 119).usable(0, 0, -1, 120);
        bound("of several notes 2 the last that is sealed", Kit.seal(0x1f, 110).other(Kit.note(2, Kit.big(120, 4)))).usable(0, 0, -1, 110);
        bound("of several notes 3 the last", bond().lasts(1).lasts(50)).usable(0, 0, -1, 149).usable(4, 0, -1, 150);
        bound("of several notes 3 the last", bond().lasts(50).lasts(1)).usable(0, 0, -1, 100).usable(4, 0, -1, 101);
        bound("of several notes 3 the last, which is 0", bond().lasts(1).lasts(0)).usable(0, 0, -1, 150);
        bound("of several notes 3 the last that is sealed", bond().lasts(50).other(Kit.note(3, soon))).usable(0, 0, -1, 149).usable(4, 0, -1, 150);
        bound("a note 3 that is not sealed", bond().other(Kit.note(3, soon))).usable(0, 0, -1, 150);
        bound("of several notes 9 the last", bond().keyLasts(1).keyLasts(50)).usable(0, 0, -1, 149).usable(2, 0, -1, 150);
        bound("of several notes 9 the last, which is 0", bond().keyLasts(1).keyLasts(0)).usable(0, 0, -1, 150);
        bound("of several notes 9 the last that is sealed", bond().keyLasts(50).other(Kit.note(9, soon))).usable(0, 0, -1, 149).usable(2, 0, -1, 150);
        bound("a note 9 that is not sealed", bond().other(Kit.note(9, late))).usable(0, 0, -1, 150);
        bound("of several notes 27 the last", bond().uses(1).uses(2)).usable(0, 0, -1, 100);
        bound("of several notes 27 the last", bond().uses(2).uses(1)).usable(5, 0, -1, 100);
        bound("of several notes 27 the last that is sealed", bond().uses(2).other(Kit.note(27, 1))).usable(0, 0, -1, 100);
        bound("a note 27 that is not sealed", bond().other(Kit.note(27, 1))).usable(0, 0, -1, 100);
        bound("of several notes 29 the last", bond(), Kit.seal(0x20, 200).why(1).why(2)).usable(3, 0, -1, 100);
        bound("of several notes 29 the last", bond(), Kit.seal(0x20, 200).why(2).why(1)).usable(0, 0, -1, 100);
        bound("of several notes 29 the last that is sealed", bond(), Kit.seal(0x20, 200).why(1).other(Kit.note(29, 2))).usable(0, 0, -1, 100);
        bound("a note 29 that is not sealed", bond(), Kit.seal(0x20, 200).other(Kit.note(29, 1))).usable(3, 0, -1, 100);
    }

    private static Run lookIs(String sentence, long want, Kit.Making making) {
        return new Run(sentence).join(1, ADA.key(), bond().by(ADA, OWN)).document(TEXT).look(want, 150, making.by(ADA, TEXT));
    }

    private static Kit.Making apart() {
        return Kit.seal(0, 150);
    }

    private static void othersCount() {
        byte[] ada = Kit.note(16, ADA.name());
        byte[] bo = Kit.note(16, BO.name());
        byte[] adaPrint = Kit.note(33, Kit.cat(Kit.row(4), ADA.print));
        byte[] boPrint = Kit.note(33, Kit.cat(Kit.row(4), BO.print));
        byte[][][] pairs = {{ada, bo}, {adaPrint, boPrint}};
        for (byte[][] pair : pairs) {
            String kind = "note " + pair[0][1] + ": ";
            lookIs(kind + "sealed", 0, apart().sealed(pair[0]));
            lookIs(kind + "not sealed, if none is sealed", 0, apart().other(pair[0]));
            lookIs(kind + "the last one that is sealed", 0, apart().sealed(pair[1]).sealed(pair[0]));
            lookIs(kind + "the last one that is sealed", 2, apart().sealed(pair[0]).sealed(pair[1]));
            lookIs(kind + "the last one of others", 0, apart().other(pair[1]).other(pair[0]));
            lookIs(kind + "the last one of others", 2, apart().other(pair[0]).other(pair[1]));
            lookIs(kind + "one that is sealed, not the others", 0, apart().sealed(pair[0]).other(pair[1]));
            lookIs(kind + "one that is sealed, not the others", 2, apart().sealed(pair[1]).other(pair[0]));
        }
        lookIs("neither 16 nor 33", 1, apart());
        lookIs("33, be it not sealed, before 16", 0, apart().sealed(bo).other(adaPrint));
        lookIs("33, be it not sealed, before 16", 2, apart().sealed(ada).other(boPrint));
        byte[] thing = Kit.thing(ADA, SUB);
        byte[] back = Kit.note(32, Kit.seal(0x19, 100).body(SUB, thing));
        byte[] none = Kit.note(32, 0);
        partIs("note 32: sealed", 0, Kit.seal(0x18, 100).uses(2).sealed(back));
        partIs("note 32: not sealed, if none is sealed", 0, Kit.seal(0x18, 100).uses(2).other(back));
        partIs("note 32: the last one that is sealed", 0, Kit.seal(0x18, 100).uses(2).sealed(none).sealed(back));
        partIs("note 32: the last one that is sealed", 6, Kit.seal(0x18, 100).uses(2).sealed(back).sealed(none));
        partIs("note 32: the last one of others", 0, Kit.seal(0x18, 100).uses(2).other(none).other(back));
        partIs("note 32: the last one of others", 6, Kit.seal(0x18, 100).uses(2).other(back).other(none));
        partIs("note 32: one that is sealed, not the others", 6, Kit.seal(0x18, 100).uses(2).sealed(none).other(back));
        partIs("note 32: one that is sealed, not the others", 0, Kit.seal(0x18, 100).uses(2).sealed(back).other(none));
    }

    private static void partIs(String sentence, long want, Kit.Making making) {
        new Run(sentence).join(1, ADA.key(), bond().by(ADA, OWN), SUB.part(), making.by(ADA, Kit.thing(ADA, SUB))).usable(want, 0, 0, 100);
    }

    private static void graveNotes() {
        for (int kind = 0; kind < 128; kind++) {
            boolean known = kind == 2 || kind == 3 || kind == 9 || kind == 16 || kind == 27 || kind == 29 || kind == 32 || kind == 33;
            byte[] says = kind == 33 ? Kit.cat(Kit.row(4), ADA.print) : kind == 16 ? ADA.name() : kind == 2 ? Kit.big(150, 4) : new byte[4];
            lookIs("a grave note " + kind + " that is sealed", known ? 0 : 1, apart().named(ADA).sealed(Kit.note(kind | 128, says)));
            lookIs("a note " + kind + " that is sealed, not grave", 0, apart().named(ADA).sealed(Kit.note(kind, says)));
            lookIs("a grave note " + kind + " that is not sealed", 0, apart().named(ADA).other(Kit.note(kind | 128, says)));
        }
        lookIs("a grave note before others", 1, new Kit.Making(0).sealed(Kit.note(128, 1)).sealed(Kit.note(2, Kit.big(150, 4))).named(ADA));
        bound("a grave note of a key's seal", bond().sealed(Kit.note(128 | 100, 1))).usable(4, 0, -1, 100);
        bound("no grave note of a key's seal", bond().sealed(Kit.note(100, 1))).usable(0, 0, -1, 100);
    }

    private static void sealedMade() {
        lookIs("with a sealed 2", 0, apart().named(ADA));
        lookIs("a sealed 2 of 0", 0, Kit.seal(0, 0).named(ADA));
        lookIs("a sealed 2 that is grave", 0, new Kit.Making(0).sealed(Kit.note(130, Kit.big(150, 4))).named(ADA));
        lookIs("without a sealed 2", 1, new Kit.Making(0).named(ADA));
        lookIs("without a sealed 2", 1, new Kit.Making(0).printed(ADA));
        lookIs("a 2 that is not sealed", 1, new Kit.Making(0).named(ADA).other(Kit.note(2, Kit.big(150, 4))));
    }

    private static void vainSeals() {
        bound("a vain bond", new Kit.Making(0x1f)).usable(4, 0, -1, 100).usable(4, 0, -1, 0xffffffffL);
        bound("a vain seal 0x20", bond(), new Kit.Making(0x20)).usable(0, 0, -1, 100);
        bound("a seal 0x20 that is not vain", bond(), Kit.seal(0x20, 100)).usable(3, 0, -1, 100);
        byte[] back = Kit.note(32, new Kit.Making(0x19).body(SUB, Kit.thing(ADA, SUB)));
        partIs("a vain seal inside", 6, Kit.seal(0x18, 100).uses(2).sealed(back));
        partIs("a vain seal 0x18", 4, new Kit.Making(0x18).uses(2).sealed(back));
        new Run("a vain seal is kept").join(1, KEY, Kit.idle(1)).key(1, 0, 4);
    }

    private static void numberIs(String sentence, long want, Kit.Pair by, BigInteger s, Kit.Making making) {
        byte[] bond = bond().by(by, Kit.thing(by));
        new Run(sentence).join(1, by.key(), bond).document(TEXT).look(want, 150, Kit.packet(2, making.body(TEXT, s)));
    }

    private static void belowN() {
        for (Kit.Pair by : new Kit.Pair[] {ADA, BO, SUB, new Kit.Pair(1024, 3, 100, 5)}) {
            Kit.Making making = apart().named(by);
            int size = (by.n.bitLength() + 7) / 8;
            BigInteger s = new BigInteger(1, making.frame(size, TEXT)).modPow(by.d, by.n);
            numberIs("s", 0, by, s, making);
            numberIs("s and n, not below n", 3, by, s.add(by.n), making);
            numberIs("s and 2 n, not below n", 3, by, s.add(by.n.shiftLeft(1)), making);
            numberIs("n - s", 3, by, by.n.subtract(s), making);
            numberIs("s + 1", 3, by, s.add(BigInteger.ONE), making);
            numberIs("0", 3, by, BigInteger.ZERO, making);
            numberIs("1", 3, by, BigInteger.ONE, making);
            numberIs("n - 1", 3, by, by.n.subtract(BigInteger.ONE), making);
            numberIs("n", 3, by, by.n, making);
            numberIs("n + 1", 3, by, by.n.add(BigInteger.ONE), making);
            numberIs("2000 bits", 3, by, BigInteger.TWO.pow(1999).add(s), making);
        }
    }

    private static void frames() {
        for (Kit.Making making : new Kit.Making[] {apart().named(ADA), apart().first().named(ADA)}) {
            byte[] frame = making.frame(64, TEXT);
            for (int i = 0; i < 64; i++) {
                byte[] spoilt = Kit.with(frame, i, frame[i] ^ (i == 0 ? 1 : 128));
                BigInteger value = new BigInteger(1, spoilt);
                if (value.compareTo(ADA.n) < 0) {
                    numberIs("another byte " + i, 3, ADA, value.modPow(ADA.d, ADA.n), making);
                }
            }
            numberIs("0, 1, 255 .. 255, 0, front, hash", 0, ADA, new BigInteger(1, frame).modPow(ADA.d, ADA.n), making);
            // a frame of a byte fewer, as if n had fewer bytes
            numberIs("in as many bytes as n has", 3, ADA, new BigInteger(1, making.frame(63, TEXT)).modPow(ADA.d, ADA.n), making);
        }
        byte[] other = Kit.cat(Kit.row(0, 1), filler(8), Kit.row(0), Kit.row(Kit.FRONT_FIRST), Kit.hash(2, TEXT), new byte[18]);
        numberIs("the hash is the last", 3, ADA, new BigInteger(1, other).modPow(ADA.d, ADA.n), apart().first().named(ADA));
    }

    private static byte[] filler(int size) {
        byte[] row = new byte[size];
        java.util.Arrays.fill(row, (byte) 255);
        return row;
    }

    private static void firstBytes() {
        for (boolean first : new boolean[] {false, true}) {
            Kit.Making making = apart().named(ADA);
            byte[] body = (first ? making.first() : making).body(ADA, TEXT);
            // behind the sealed notes stand a length and the note of the name
            int place = making.head().length + 2 + 10;
            Run x = new Run("the two bytes are the hash's first ones").join(1, ADA.key(), bond().by(ADA, OWN)).document(TEXT);
            x.look(0, 150, Kit.packet(2, body));
            x.look(3, 150, Kit.packet(2, Kit.with(body, place, body[place] ^ 1)));
            x.look(3, 150, Kit.packet(2, Kit.with(body, place, body[place] ^ 128)));
            x.look(3, 150, Kit.packet(2, Kit.with(body, place + 1, body[place + 1] ^ 1)));
            x.look(3, 150, Kit.packet(2, Kit.with(body, place + 1, body[place + 1] ^ 128)));
        }
    }

    private static void sizesOfN() {
        for (int bits : new int[] {497, 498, 503, 504, 505, 1015, 1016, 1017, 1023, 1024}) {
            for (long e : new long[] {3, 65537, 4294967295L}) {
                Kit.Pair by = new Kit.Pair(bits, e, 100, bits + 7);
                Run x = new Run("n of " + bits + " bits, e of " + e).join(1, by.secretKey(), bond().by(by, Kit.thing(by)));
                x.usable(0, 0, -1, 100).document(TEXT).look(0, 150, apart().named(by).by(by, TEXT));
                x.look(0, 150, apart().first().named(by).by(by, TEXT)).look(3, 150, apart().named(by).by(by, OWN));
            }
        }
    }

    private static void lines() {
        String[][] pairs = {{"", ""}, {"\n", "\r\n"}, {"\r\n", "\r\n"}, {"\n\n", "\r\n\r\n"}, {"\r", "\r"}, {"\n\r", "\r\n\r"}, {"\r\r\n", "\r\r\n"},
            {"a\nb", "a\r\nb"}, {"a\r\nb\n", "a\r\nb\r\n"}, {"a\rb\n", "a\rb\r\n"}, {"\r\n\n", "\r\n\r\n"}};
        for (String[] pair : pairs) {
            byte[] seal = Kit.seal(1, 150).named(ADA).by(ADA, Kit.text(pair[1]));
            new Run("a 10 that has no 13 before it gets one").join(1, ADA.key(), bond().by(ADA, OWN)).document(Kit.text(pair[0]))
                .look(0, 150, seal);
            if (!pair[0].equals(pair[1])) {
                byte[] other = Kit.seal(1, 150).named(ADA).by(ADA, Kit.text(pair[0]));
                new Run("a 10 that has no 13 before it gets one").join(1, ADA.key(), bond().by(ADA, OWN)).document(Kit.text(pair[0]))
                    .look(3, 150, other);
                byte[] plain = Kit.seal(0, 150).named(ADA).by(ADA, Kit.text(pair[0]));
                new Run("type 0 as it is").join(1, ADA.key(), bond().by(ADA, OWN)).document(Kit.text(pair[0])).look(0, 150, plain);
            }
        }
    }
}
