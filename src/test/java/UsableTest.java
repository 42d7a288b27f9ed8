import java.math.BigInteger;

/** Promise 9 usable: what a key, or part, is at a time. */
public final class UsableTest {
    private static final Kit.Pair ADA = new Kit.Pair(512, 65537, 100, 1);
    private static final Kit.Pair BO = new Kit.Pair(512, 17, 100, 2);
    private static final Kit.Pair SUB = new Kit.Pair(504, 3, 110, 3);
    private static final byte[] OWN = Kit.thing(ADA);
    private static final byte[] USER_A = Kit.thing(ADA, "a");
    private static final byte[] USER_B = Kit.thing(ADA, "b");
    private static final byte[] PART = Kit.thing(ADA, SUB);
    private static final byte[] BOND = Kit.seal(0x1f, 100).by(ADA, OWN);

    public static void main(String[] args) {
        wrongArguments();
        counts();
        truth();
        vain();
        bonds();
        usersRevoked();
        ended();
        uses();
        revoked();
        parts();
        partsRevoked();
        backSeals();
        sizes();
        Kit.done();
    }

    /** What key 0 is: pairs of a time and what is due then. */
    private static void is(String what, SignetRing x, int part, long... pairs) {
        for (int i = 0; i < pairs.length; i += 2) {
            long t = pairs[i];
            Kit.due(what + " at " + t, () -> x.usable(0, part, t), pairs[i + 1]);
        }
    }

    private static void keyIs(String what, byte[][] packets, long... pairs) {
        is(what, Kit.ring(ADA.key(), Kit.cat(packets)), -1, pairs);
    }

    private static byte[][] all(byte[]... packets) {
        return packets;
    }

    private static void wrongArguments() {
        SignetRing x = Kit.ring(ADA.key(), SUB.part());
        for (int bad : new int[] {-1, 1, Integer.MIN_VALUE, Integer.MAX_VALUE}) {
            Kit.due("usable(" + bad + ", -1, 0)", () -> x.usable(bad, -1, 0), Kit.INDEX);
            Kit.due("usable(" + bad + ", -1, -1)", () -> x.usable(bad, -1, -1), Kit.INDEX);
        }
        for (int bad : new int[] {-2, 1, Integer.MIN_VALUE, Integer.MAX_VALUE}) {
            Kit.due("usable(0, " + bad + ", 0)", () -> x.usable(0, bad, 0), Kit.INDEX);
        }
        for (long bad : new long[] {-1, 1L << 32, Long.MIN_VALUE, Long.MAX_VALUE}) {
            Kit.due("usable(0, -1, " + bad + ")", () -> x.usable(0, -1, bad), Kit.ARGUMENT);
            Kit.due("usable(0, 0, " + bad + ")", () -> x.usable(0, 0, bad), Kit.ARGUMENT);
        }
        Kit.due("the last time", () -> x.usable(0, -1, 0xffffffffL), 4);
        Kit.due("the first time", () -> x.usable(0, 0, 0), 1);
    }

    private static void counts() {
        keyIs("no seals", all(), 0, 1, 99, 1, 100, 4);
        keyIs("made with the key", all(BOND), 99, 1, 100, 0, 0xffffffffL, 0);
        keyIs("made later", all(Kit.seal(0x1f, 120).by(ADA, OWN)), 119, 4, 120, 0);
        keyIs("made before the key", all(Kit.seal(0x1f, 99).by(ADA, OWN)), 99, 1, 100, 4, 200, 4);
        keyIs("that ends", all(Kit.seal(0x1f, 120).lasts(10).by(ADA, OWN)), 119, 4, 120, 0, 129, 0, 130, 4, 131, 4);
        keyIs("that never ends", all(Kit.seal(0x1f, 120).lasts(0).by(ADA, OWN)), 120, 0, 0xffffffffL, 0);
        keyIs("that ends far away", all(Kit.seal(0x1f, 0xfffffff0L).lasts(0xffffffffL).by(ADA, OWN)), 0xfffffff0L, 0,
            0xffffffffL, 0);
        keyIs("by the first hash", all(Kit.seal(0x1f, 120).first().by(ADA, OWN)), 119, 4, 120, 0);
        keyIs("the last note 2", all(Kit.seal(0x1f, 130).sealed(Kit.note(2, Kit.big(120, 4))).by(ADA, OWN)), 119, 4, 120, 0);
        keyIs("the last note 3", all(Kit.seal(0x1f, 120).lasts(10).lasts(0).by(ADA, OWN)), 130, 0);
        keyIs("a note 3 that is not sealed", all(Kit.seal(0x1f, 120).other(Kit.note(3, 0, 0, 0, 1)).by(ADA, OWN)), 130, 0);
    }

    private static void truth() {
        Kit.Making making = Kit.seal(0x1f, 100);
        BigInteger s = new BigInteger(1, making.frame(64, OWN)).modPow(ADA.d, ADA.n);
        keyIs("true", all(Kit.packet(2, making.body(OWN, s))), 100, 0);
        keyIs("another number", all(Kit.packet(2, making.body(OWN, s.add(BigInteger.ONE)))), 100, 4);
        keyIs("n more", all(Kit.packet(2, making.body(OWN, s.add(ADA.n)))), 100, 4);
        keyIs("a number that is n", all(Kit.packet(2, making.body(OWN, ADA.n))), 100, 4);
        keyIs("no number", all(Kit.packet(2, making.body(OWN, BigInteger.ZERO))), 100, 4);
        keyIs("a long number", all(Kit.packet(2, making.body(OWN, BigInteger.TWO.pow(4000)))), 100, 4);
        keyIs("made by another", all(making.by(BO, OWN)), 100, 4);
        byte[] body = making.body(OWN, s);
        int check = body.length - 64 - 4;
        keyIs("another first byte", all(Kit.packet(2, Kit.with(body, check, body[check] ^ 1))), 100, 4);
        keyIs("another second byte", all(Kit.packet(2, Kit.with(body, check + 1, body[check + 1] ^ 128))), 100, 4);
        keyIs("of another thing", all(making.by(ADA, USER_A)), 100, 4);
        keyIs("of another type", all(Kit.seal(0x1e, 100).by(ADA, OWN)), 100, 4);
        byte[] frame = making.frame(64, OWN);
        for (int i : new int[] {0, 1, 2, 9, 12, 13, 20, 31, 32, 63}) {
            byte[] other = Kit.with(frame, i, frame[i] ^ 1);
            BigInteger spoilt = new BigInteger(1, other).modPow(ADA.d, ADA.n);
            keyIs("byte " + i + " of the frame", all(Kit.packet(2, making.body(OWN, spoilt))), 100, 4);
        }
    }

    private static void vain() {
        keyIs("no note 2", all(new Kit.Making(0x1f).by(ADA, OWN)), 100, 4, 0xffffffffL, 4);
        keyIs("a note 2 that is not sealed", all(new Kit.Making(0x1f).other(Kit.note(2, 0, 0, 0, 100)).by(ADA, OWN)), 100, 4);
        for (int kind = 0; kind < 128; kind++) {
            boolean known = kind == 2 || kind == 3 || kind == 9 || kind == 16 || kind == 33 || kind == 27 || kind == 29
                || kind == 32;
            byte[] says = kind == 33 ? Kit.cat(Kit.row(4), ADA.print) : kind == 16 ? new byte[8] : Kit.row(2, 0, 0, 0);
            Kit.Making sealed = Kit.seal(0x1f, 100).sealed(Kit.note(kind | 128, says)).sealed(Kit.note(2, 0, 0, 0, 100));
            keyIs("a grave note " + kind, all(sealed.by(ADA, OWN)), 100, known ? 0 : 4);
            if (kind % 16 == 0 || kind == 127) {
                Kit.Making light = Kit.seal(0x1f, 100).sealed(Kit.note(kind, says));
                keyIs("a note " + kind, all(light.by(ADA, OWN)), 100, 0);
                Kit.Making other = Kit.seal(0x1f, 100).other(Kit.note(kind | 128, says));
                keyIs("a grave note " + kind + " that is not sealed", all(other.by(ADA, OWN)), 100, 0);
            }
        }
    }

    private static void bonds() {
        byte[] users = Kit.user("a");
        for (int type = 0; type < 256; type++) {
            boolean own = type == 0x1f;
            boolean ofUser = type >= 0x10 && type <= 0x13;
            long revoked = type == 0x20 ? 3 : 4;
            keyIs("type " + type + " of the key", all(Kit.seal(type, 100).by(ADA, OWN)), 100, own ? 0 : revoked);
            keyIs("type " + type + " of a user", all(users, Kit.seal(type, 100).by(ADA, USER_A)), 100, ofUser ? 0 : 4);
        }
        keyIs("of a user that it seals not", all(Kit.user("b"), Kit.seal(0x13, 100).by(ADA, USER_A)), 100, 4);
        // which one is the bond shows by what it says: 5 by the one without 2, 2 by the one that ends
        byte[] ownNone = Kit.seal(0x1f, 150).uses(1).by(ADA, OWN);
        byte[] ownSeal = Kit.seal(0x1f, 150).uses(2).by(ADA, OWN);
        byte[] ownLater = Kit.seal(0x1f, 151).uses(2).by(ADA, OWN);
        keyIs("the later one of alike ones", all(ownNone, ownSeal), 150, 0);
        keyIs("the later one of alike ones", all(ownSeal, ownNone), 150, 5);
        keyIs("the one made last", all(ownLater, ownNone), 150, 5, 151, 0);
        keyIs("the one made last", all(ownNone, ownLater), 150, 5, 151, 0);
        byte[] a = Kit.user("a");
        byte[] b = Kit.user("b");
        byte[] aNone = Kit.seal(0x10, 150).uses(1).by(ADA, USER_A);
        byte[] aSeal = Kit.seal(0x11, 150).uses(2).by(ADA, USER_A);
        byte[] bNone = Kit.seal(0x12, 150).uses(1).by(ADA, USER_B);
        byte[] bLater = Kit.seal(0x13, 151).uses(1).by(ADA, USER_B);
        byte[] bEnds = Kit.seal(0x13, 160).lasts(5).uses(1).by(ADA, USER_B);
        keyIs("the later one of a user", all(a, aNone, aSeal), 150, 0);
        keyIs("the later one of a user", all(a, aSeal, aNone), 150, 5);
        keyIs("the key's own first", all(ownSeal, a, aNone), 150, 0);
        keyIs("the key's own first", all(a, aNone, ADA.key(), ownSeal), 150, 0);
        keyIs("the key's own first", all(ownNone, a, aSeal), 150, 5);
        keyIs("users in order", all(a, aSeal, b, bNone), 150, 0);
        keyIs("users in order", all(b, bNone, a, aSeal), 150, 5);
        keyIs("of users the one made last", all(a, aSeal, b, bLater), 150, 0, 151, 5);
        keyIs("a user's that was made after the key's own", all(ownSeal, b, bLater), 150, 0, 151, 5);
        keyIs("a later one that ends", all(ownSeal, b, bEnds), 150, 0, 159, 0, 160, 5, 164, 5, 165, 0);
        keyIs("another's seal counts not", all(ownSeal, b, Kit.seal(0x13, 151).uses(1).by(BO, USER_B)), 151, 0);
    }

    private static void usersRevoked() {
        byte[] a = Kit.user("a");
        byte[] bond = Kit.seal(0x13, 150).by(ADA, USER_A);
        for (int made = 149; made <= 151; made++) {
            byte[] against = Kit.seal(0x30, made).by(ADA, USER_A);
            keyIs("a user revoked at " + made, all(a, bond, against), 150, made == 150 ? 4 : 0, 151, made == 149 ? 0 : 4);
            keyIs("a user revoked at " + made + " before", all(a, against, bond), 151, made == 149 ? 0 : 4);
        }
        byte[] ends = Kit.seal(0x30, 160).lasts(10).by(ADA, USER_A);
        keyIs("a user revoked for a while", all(a, bond, ends), 159, 0, 160, 4, 169, 4, 170, 0);
        keyIs("a user revoked by another", all(a, bond, Kit.seal(0x30, 160).by(BO, USER_A)), 160, 0);
        keyIs("a user sealed again", all(a, bond, ends, Kit.seal(0x13, 165).by(ADA, USER_A)), 160, 4, 164, 4, 165, 0);
        byte[] b = Kit.user("b");
        byte[] bSeal = Kit.seal(0x13, 140).uses(1).by(ADA, USER_B);
        keyIs("the other user stays", all(a, bond, ends, b, bSeal), 140, 5, 150, 0, 160, 5, 170, 0);
        keyIs("the key's own stays", all(BOND, a, bond, ends), 160, 0);
    }

    private static void ended() {
        keyIs("ends", all(Kit.seal(0x1f, 150).keyLasts(60).by(ADA, OWN)), 150, 0, 159, 0, 160, 2, 0xffffffffL, 2);
        keyIs("ended before it was bound", all(Kit.seal(0x1f, 150).keyLasts(10).by(ADA, OWN)), 120, 4, 150, 2);
        keyIs("never ends", all(Kit.seal(0x1f, 150).keyLasts(0).by(ADA, OWN)), 150, 0, 0xffffffffL, 0);
        keyIs("ends far away", all(Kit.seal(0x1f, 150).keyLasts(0xffffffffL).by(ADA, OWN)), 0xffffffffL, 0);
        keyIs("ended, and without 2", all(Kit.seal(0x1f, 150).keyLasts(60).uses(1).by(ADA, OWN)), 159, 5, 160, 2);
        keyIs("the last note 9", all(Kit.seal(0x1f, 150).keyLasts(60).keyLasts(70).by(ADA, OWN)), 160, 0, 170, 2);
        keyIs("a note 9 that is not sealed", all(Kit.seal(0x1f, 150).other(Kit.note(9, 0, 0, 0, 1)).by(ADA, OWN)), 160, 0);
        keyIs("a later bond", all(Kit.seal(0x1f, 150).keyLasts(60).by(ADA, OWN), Kit.seal(0x1f, 170).by(ADA, OWN)), 165, 2,
            170, 0);
    }

    private static void uses() {
        for (int what = 0; what < 256; what += 5) {
            keyIs("what for " + what, all(Kit.seal(0x1f, 150).uses(what).by(ADA, OWN)), 150, (what & 2) != 0 ? 0 : 5);
        }
        keyIs("the first byte", all(Kit.seal(0x1f, 150).sealed(Kit.note(27, 1, 2)).by(ADA, OWN)), 150, 5);
        keyIs("the last note 27", all(Kit.seal(0x1f, 150).uses(1).uses(2).by(ADA, OWN)), 150, 0);
        keyIs("a note 27 that is not sealed", all(Kit.seal(0x1f, 150).other(Kit.note(27, 1)).by(ADA, OWN)), 150, 0);
    }

    private static void revoked() {
        for (int why = 0; why < 6; why++) {
            boolean soft = why == 1 || why == 3;
            byte[] against = Kit.seal(0x20, 150).lasts(10).why(why).by(ADA, OWN);
            keyIs("why " + why, all(BOND, against), 99, 1, 100, soft ? 0 : 3, 149, soft ? 0 : 3, 150, 3, 159, 3, 160,
                soft ? 0 : 3);
            byte[] early = Kit.seal(0x20, 50).why(why).by(ADA, OWN);
            keyIs("before the key, why " + why, all(BOND, early), 60, 1, 100, soft ? 0 : 3);
        }
        keyIs("without why", all(BOND, Kit.seal(0x20, 150).by(ADA, OWN)), 99, 1, 100, 3);
        keyIs("why is not sealed", all(BOND, Kit.seal(0x20, 150).other(Kit.note(29, 1)).by(ADA, OWN)), 100, 3);
        keyIs("the last note 29", all(BOND, Kit.seal(0x20, 150).why(2).why(3).by(ADA, OWN)), 100, 0, 150, 3);
        keyIs("by another", all(BOND, Kit.seal(0x20, 150).by(BO, OWN)), 150, 0);
        keyIs("vain", all(BOND, new Kit.Making(0x20).by(ADA, OWN)), 150, 0);
        keyIs("grave", all(BOND, Kit.seal(0x20, 150).sealed(Kit.note(200, 1)).by(ADA, OWN)), 150, 0);
        keyIs("before unbound", all(Kit.seal(0x20, 150).by(ADA, OWN)), 100, 3);
        keyIs("two of them", all(BOND, Kit.seal(0x20, 150).why(1).by(ADA, OWN), Kit.seal(0x20, 150).by(ADA, OWN)), 100, 3);
    }

    private static Kit.Making back(long made) {
        return Kit.seal(0x19, made);
    }

    private static byte[] inner(Kit.Making back) {
        return Kit.note(32, back.body(SUB, PART));
    }

    private static Kit.Making bound(long made) {
        return Kit.seal(0x18, made).uses(2).sealed(inner(back(made)));
    }

    private static void partIs(String what, byte[][] packets, long... pairs) {
        is(what, Kit.ring(ADA.key(), BOND, SUB.part(), Kit.cat(packets)), 0, pairs);
    }

    private static void parts() {
        partIs("no seals", all(), 99, 1, 100, 1, 109, 1, 110, 4);
        partIs("bound", all(bound(120).by(ADA, PART)), 99, 1, 109, 1, 110, 4, 119, 4, 120, 0, 0xffffffffL, 0);
        partIs("bound before it was made", all(bound(105).by(ADA, PART)), 105, 1, 110, 0);
        partIs("bound before the key was made", all(bound(99).by(ADA, PART)), 110, 4);
        partIs("bound by another", all(bound(120).by(BO, PART)), 120, 4);
        partIs("bound by itself", all(bound(120).by(SUB, PART)), 120, 4);
        partIs("of another thing", all(bound(120).by(ADA, Kit.thing(SUB, ADA))), 120, 4);
        partIs("of another type", all(Kit.seal(0x19, 120).uses(2).sealed(inner(back(120))).by(ADA, PART)), 120, 4);
        partIs("bound for a while", all(bound(120).lasts(10).by(ADA, PART)), 129, 0, 130, 4);
        partIs("ends", all(bound(120).keyLasts(20).by(ADA, PART)), 129, 0, 130, 2);
        partIs("without 27", all(Kit.seal(0x18, 120).sealed(inner(back(120))).by(ADA, PART)), 120, 5);
        partIs("27 without 2", all(bound(120).uses(4).by(ADA, PART)), 120, 5);
        partIs("27 without 2", all(bound(120).uses(1).by(ADA, PART)), 120, 5);
        partIs("27 of nothing", all(bound(120).uses(0).by(ADA, PART)), 120, 5);
        partIs("ended, and without 2", all(bound(120).uses(4).keyLasts(20).by(ADA, PART)), 129, 5, 130, 2);
        partIs("the one made last", all(bound(130).by(ADA, PART), bound(120).uses(4).by(ADA, PART)), 120, 5, 130, 0);
        partIs("the later one of alike ones", all(bound(120).by(ADA, PART), bound(120).uses(4).by(ADA, PART)), 120, 5);
        partIs("the later one of alike ones", all(bound(120).uses(4).by(ADA, PART), bound(120).by(ADA, PART)), 120, 0);
        Kit.Pair old = new Kit.Pair(512, 5, 50, 6);
        is("a part older than its key", Kit.ring(ADA.key(), BOND, old.part()), 0, 49, 1, 50, 1, 99, 1, 100, 4);
        byte[] part = Kit.cat(SUB.part(), bound(120).by(ADA, PART));
        is("as its key, unbound", Kit.ring(ADA.key(), part), 0, 99, 1, 120, 4);
        byte[] ends = Kit.seal(0x1f, 100).keyLasts(50).by(ADA, OWN);
        is("as its key, ended", Kit.ring(ADA.key(), ends, part), 0, 149, 0, 150, 2);
        byte[] against = Kit.seal(0x20, 150).why(1).by(ADA, OWN);
        is("as its key, revoked", Kit.ring(ADA.key(), BOND, against, part), 0, 149, 0, 150, 3);
        byte[] none = Kit.seal(0x1f, 100).uses(1).by(ADA, OWN);
        is("its key seals not", Kit.ring(ADA.key(), none, part), 0, 120, 0);
        is("its key seals not", Kit.ring(ADA.key(), none, part), -1, 120, 5);
    }

    private static void partsRevoked() {
        byte[] bond = bound(120).by(ADA, PART);
        for (int why = 0; why < 5; why++) {
            boolean soft = why == 1 || why == 3;
            byte[] against = Kit.seal(0x28, 150).lasts(10).why(why).by(ADA, PART);
            partIs("part, why " + why, all(bond, against), 109, 1, 120, soft ? 0 : 3, 149, soft ? 0 : 3, 150, 3, 160,
                soft ? 0 : 3);
        }
        partIs("part, without why", all(bond, Kit.seal(0x28, 150).by(ADA, PART)), 109, 1, 110, 3);
        partIs("part, by itself", all(bond, Kit.seal(0x28, 150).by(SUB, PART)), 150, 0);
        partIs("part, by another type", all(bond, Kit.seal(0x20, 150).by(ADA, PART)), 150, 0);
        partIs("part, vain", all(bond, new Kit.Making(0x28).by(ADA, PART)), 150, 0);
    }

    private static void backIs(String what, long want, byte[] innerNote) {
        partIs(what, all(Kit.seal(0x18, 120).uses(2).sealed(innerNote).by(ADA, PART)), 120, want);
    }

    private static void backSeals() {
        partIs("no note 32", all(Kit.seal(0x18, 120).uses(2).by(ADA, PART)), 120, 6);
        partIs("a note 32 that is not sealed", all(Kit.seal(0x18, 120).uses(2).other(inner(back(120))).by(ADA, PART)), 120, 0);
        byte[] none = Kit.note(32, 1, 2, 3);
        partIs("a sealed one counts", all(Kit.seal(0x18, 120).uses(2).sealed(none).other(inner(back(120))).by(ADA, PART)), 120,
            6);
        partIs("the last one", all(Kit.seal(0x18, 120).uses(2).other(none).other(inner(back(120))).by(ADA, PART)), 120, 0);
        backIs("by the first hash", 0, inner(back(120).first()));
        backIs("no bytes", 6, Kit.note(32));
        backIs("of another version", 6, Kit.note(32, Kit.with(back(120).body(SUB, PART), 0, 3)));
        backIs("a byte too many", 6, Kit.note(32, Kit.cat(back(120).body(SUB, PART), Kit.row(0))));
        backIs("of another type", 6, inner(Kit.seal(0x18, 120)));
        backIs("by the key", 6, Kit.note(32, back(120).body(ADA, PART)));
        backIs("of another thing", 6, Kit.note(32, back(120).body(SUB, OWN)));
        backIs("vain", 6, inner(new Kit.Making(0x19)));
        backIs("grave", 6, inner(back(120).sealed(Kit.note(200, 1))));
        backIs("made before", 0, inner(back(5)));
        backIs("made later", 6, inner(back(121)));
        backIs("that ended", 0, inner(back(110).lasts(1)));
        partIs("made later", all(Kit.seal(0x18, 120).uses(2).sealed(inner(back(125))).by(ADA, PART)), 124, 6, 125, 0);
    }

    /** Keys of many sizes: their numbers end at many places of the rows that they are reckoned in. */
    private static void sizes() {
        for (int bits : new int[] {497, 500, 503, 505, 511, 513, 531, 532, 533, 559, 560, 561, 700, 1007, 1008, 1009, 1023, 1024}) {
            for (long e : new long[] {3, 65537, 4294967295L}) {
                Kit.Pair key = new Kit.Pair(bits, e, 100, bits);
                byte[] thing = Kit.thing(key);
                is("a key of " + bits + " bits", Kit.ring(key.key(), Kit.seal(0x1f, 100).by(key, thing)), -1, 100, 0);
                BigInteger half = key.n.subtract(BigInteger.ONE);
                byte[] other = Kit.packet(2, Kit.seal(0x1f, 100).body(thing, half));
                is("a key of " + bits + " bits", Kit.ring(key.key(), other), -1, 100, 4);
            }
        }
    }
}
