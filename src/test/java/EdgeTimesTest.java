import java.math.BigInteger;

/** Edges of times and of what a key or part is by its seals: promise 9 usable. */
public final class EdgeTimesTest {
    private static final long LAST = 0xffffffffL;
    private static final Kit.Pair ADA = new Kit.Pair(497, 3, 1000, 1);
    private static final Kit.Pair BO = new Kit.Pair(497, 3, 1000, 2);
    private static final Kit.Pair SUB = new Kit.Pair(497, 5, 1100, 3);
    private static final byte[] OWN = Kit.thing(ADA);
    private static final byte[] USER = Kit.thing(ADA, "u");
    private static final byte[] OTHER = Kit.thing(ADA, "v");
    private static final byte[] PART = Kit.thing(ADA, SUB);
    private static final byte[] BOND = own(1000);

    public static void main(String[] args) {
        notYet();
        madeAtOrBefore();
        notBeforeTheKey();
        hasNotEnded();
        endsBeyondTheLastTime();
        endedKeys();
        endedBeyondTheLastTime();
        whatFor();
        typesOfBonds();
        sizesOfUsers();
        madeLast();
        alikeOnes();
        revokedUsers();
        revokedKeys();
        whyNot();
        orderOfStates();
        partAsItsKey();
        partNotYet();
        revokedParts();
        bondsOfParts();
        endedParts();
        whatPartsAreFor();
        sealsInside();
        typesInside();
        oneAfterTheOther();
        wrongAsked();
        Kit.done();
    }

    /** The same key, made at another time. */
    private static Kit.Pair at(long made) {
        return new Kit.Pair(497, 3, made, 1);
    }

    private static byte[] own(long made) {
        return Kit.seal(0x1f, made).by(ADA, OWN);
    }

    /** What key 0 is: pairs of a time and what is due then. */
    private static void is(String sentence, byte[] packets, long... pairs) {
        Run x = new Run(sentence).join(1, packets);
        for (int i = 0; i < pairs.length; i += 2) {
            x.usable(pairs[i + 1], 0, -1, pairs[i]);
        }
    }

    private static void partIs(String sentence, byte[] packets, long... pairs) {
        Run x = new Run(sentence).join(1, packets);
        for (int i = 0; i < pairs.length; i += 2) {
            x.usable(pairs[i + 1], 0, 0, pairs[i]);
        }
    }

    private static byte[] ada(byte[]... seals) {
        return Kit.cat(ADA.key(), Kit.cat(seals));
    }

    private static void notYet() {
        is("1 (not yet), if t is before it was made", ada(), 0, 1, 999, 1, 1000, 4, 1001, 4);
        is("1 (not yet), if t is before it was made", ada(BOND), 0, 1, 999, 1, 1000, 0, LAST, 0);
        Kit.Pair first = at(0);
        is("made at 0", Kit.cat(first.key(), Kit.seal(0x1f, 0).by(first, Kit.thing(first))), 0, 0, LAST, 0);
        Kit.Pair last = at(LAST);
        is("made at the last time", Kit.cat(last.key(), Kit.seal(0x1f, LAST).by(last, Kit.thing(last))), LAST - 1, 1, LAST, 0);
    }

    private static void madeAtOrBefore() {
        is("made at t or before", ada(own(1001)), 1000, 4, 1001, 0, 1002, 0);
        is("made at t or before", ada(own(LAST)), LAST - 1, 4, LAST, 0);
        is("made at t or before", ada(own(0x80000000L)), 0x7fffffffL, 4, 0x80000000L, 0);
    }

    private static void notBeforeTheKey() {
        is("not before the key", ada(own(999)), 1000, 4, LAST, 4);
        is("not before the key", ada(own(1000)), 1000, 0, LAST, 0);
        is("not before the key", ada(own(0)), 1000, 4);
        Kit.Pair big = at(0x80000000L);
        byte[] thing = Kit.thing(big);
        is("not before the key", Kit.cat(big.key(), Kit.seal(0x1f, 0x7fffffffL).by(big, thing)), 0x80000000L, 4);
        is("not before the key", Kit.cat(big.key(), Kit.seal(0x1f, 0x80000000L).by(big, thing)), 0x80000000L, 0);
    }

    private static byte[] lasting(long made, long seconds) {
        return Kit.seal(0x1f, made).lasts(seconds).by(ADA, OWN);
    }

    private static void hasNotEnded() {
        is("made + seconds > t, 1", ada(lasting(1000, 1)), 1000, 0, 1001, 4);
        is("made + seconds > t, 10", ada(lasting(1000, 10)), 1009, 0, 1010, 4, 1011, 4);
        is("0 never", ada(lasting(1000, 0)), 1000, 0, 1001, 0, LAST, 0);
        is("no note 3", ada(own(1000)), 1000, 0, LAST, 0);
    }

    private static void endsBeyondTheLastTime() {
        is("made + seconds at the last time", ada(lasting(1000, LAST - 1000)), LAST - 1, 0, LAST, 4);
        is("made + seconds beyond the last time", ada(lasting(1000, LAST - 999)), LAST - 1, 0, LAST, 0);
        is("made + seconds beyond the last time", ada(lasting(0x80000000L, 0x80000000L)), 0x80000000L, 0, LAST, 0);
        is("made + seconds beyond the last time", ada(lasting(LAST, 1)), LAST - 1, 4, LAST, 0);
        is("made + seconds beyond the last time", ada(lasting(LAST, LAST)), LAST, 0);
    }

    private static byte[] ending(long seconds) {
        return Kit.seal(0x1f, 1000).keyLasts(seconds).by(ADA, OWN);
    }

    private static void endedKeys() {
        is("made + its bond's note 9 is not above t, 1", ada(ending(1)), 1000, 0, 1001, 2);
        is("made + its bond's note 9 is not above t, 10", ada(ending(10)), 1009, 0, 1010, 2, 1011, 2, LAST, 2);
        is("0 never", ada(ending(0)), 1000, 0, LAST, 0);
        byte[] later = Kit.seal(0x1f, 1005).keyLasts(10).by(ADA, OWN);
        is("from when the key was made, not the bond", ada(later), 1004, 4, 1009, 0, 1010, 2);
        is("by its bond alone", ada(ending(10), own(1005)), 1004, 0, 1010, 0);
        is("by its bond alone", ada(own(1000), Kit.seal(0x1f, 1005).keyLasts(2).by(ADA, OWN)), 1004, 0, 1005, 2);
    }

    private static void endedBeyondTheLastTime() {
        is("made + note 9 at the last time", ada(ending(LAST - 1000)), LAST - 1, 0, LAST, 2);
        is("made + note 9 beyond the last time", ada(ending(LAST - 999)), LAST, 0);
        is("made + note 9 beyond the last time", ada(ending(LAST)), LAST, 0);
        Kit.Pair big = at(0x80000000L);
        byte[] bond = Kit.seal(0x1f, 0x80000000L).keyLasts(0x80000000L).by(big, Kit.thing(big));
        is("made + note 9 beyond the last time", Kit.cat(big.key(), bond), 0x80000000L, 0, LAST, 0);
        byte[] near = Kit.seal(0x1f, 0x80000000L).keyLasts(0x7fffffffL).by(big, Kit.thing(big));
        is("made + note 9 at the last time", Kit.cat(big.key(), near), LAST - 1, 0, LAST, 2);
    }

    private static void whatFor() {
        for (int what = 0; what < 256; what++) {
            byte[] bond = Kit.seal(0x1f, 1000).uses(what).by(ADA, OWN);
            is("27 without 2: " + what, ada(bond), 1000, (what & 2) == 0 ? 5 : 0);
        }
        is("without 27", ada(BOND), 1000, 0);
        is("the first byte", ada(Kit.seal(0x1f, 1000).sealed(Kit.note(27, 1, 2)).by(ADA, OWN)), 1000, 5);
        is("the first byte", ada(Kit.seal(0x1f, 1000).sealed(Kit.note(27, 2, 1)).by(ADA, OWN)), 1000, 0);
    }

    private static void typesOfBonds() {
        for (int type = 0; type < 256; type++) {
            long none = type == 0x20 ? 3 : 4;
            is("its own of type 0x1f, not " + type, ada(Kit.seal(type, 1000).by(ADA, OWN)), 1000, type == 0x1f ? 0 : none);
            byte[] ofUser = Kit.cat(Kit.user("u"), Kit.seal(type, 1000).by(ADA, USER));
            is("types 0x10 .. 0x13 of a user, not " + type, ada(ofUser), 1000, type >= 0x10 && type <= 0x13 ? 0 : 4);
        }
        is("its own, not a user's", ada(Kit.user("u"), own(1000)), 1000, 4);
        is("a user's, not its own", ada(Kit.seal(0x13, 1000).by(ADA, USER), Kit.user("u")), 1000, 4);
        is("a user's, not another's", ada(Kit.user("v"), Kit.seal(0x13, 1000).by(ADA, USER)), 1000, 4);
        is("made by the key, not by another", ada(Kit.seal(0x1f, 1000).by(BO, OWN)), 1000, 4);
    }

    private static void sizesOfUsers() {
        for (int size : new int[] {0, 1, 127, 128, 191, 192, 199, 200}) {
            String name = "\u00fe".repeat(size);
            byte[] user = Kit.cat(Kit.user(name), Kit.seal(0x13, 1000).by(ADA, Kit.thing(ADA, name)));
            is("a user is 0xb4, four bytes, its bytes: " + size, ada(user), 1000, 0);
            byte[] two = Kit.cat(ADA.sealed(), Kit.row(0xb4), Kit.big(size, 2), Kit.text(name));
            is("four bytes, not two: " + size, ada(Kit.user(name), Kit.seal(0x13, 1000).by(ADA, two)), 1000, 4);
            byte[] none = Kit.cat(ADA.sealed(), Kit.text(name));
            is("0xb4 and four bytes, not none: " + size, ada(Kit.user(name), Kit.seal(0x13, 1000).by(ADA, none)), 1000, 4);
        }
    }

    private static byte[] says(int type, long made, int uses, byte[] thing) {
        return Kit.seal(type, made).uses(uses).by(ADA, thing);
    }

    private static void madeLast() {
        byte[] first = says(0x1f, 1000, 1, OWN);
        byte[] second = says(0x1f, 1001, 2, OWN);
        is("the one made last", ada(first, second), 1000, 5, 1001, 0);
        is("the one made last, be it the first one", ada(second, first), 1000, 5, 1001, 0);
        byte[] u = Kit.user("u");
        is("the one made last of a user", ada(u, says(0x10, 1000, 1, USER), says(0x13, 1001, 2, USER)), 1000, 5, 1001, 0);
        is("the one made last of a user", ada(u, says(0x13, 1001, 2, USER), says(0x10, 1000, 1, USER)), 1000, 5, 1001, 0);
        is("of these the one that was made last", ada(says(0x1f, 1001, 1, OWN), u, says(0x13, 1000, 2, USER)), 1000, 0, 1001, 5);
        is("of these the one that was made last", ada(says(0x1f, 1000, 1, OWN), u, says(0x13, 1001, 2, USER)), 1000, 5, 1001, 0);
        byte[] v = Kit.user("v");
        is("of these the one that was made last", ada(u, says(0x13, 1000, 1, USER), v, says(0x13, 1001, 2, OTHER)), 1000, 5, 1001, 0);
        is("of these the one that was made last", ada(u, says(0x13, 1001, 2, USER), v, says(0x13, 1000, 1, OTHER)), 1000, 5, 1001, 0);
        byte[] gone = Kit.seal(0x1f, 1002).lasts(2).uses(1).by(ADA, OWN);
        is("of those that count", ada(second, gone), 1001, 0, 1002, 5, 1003, 5, 1004, 0);
    }

    private static void alikeOnes() {
        byte[] no = says(0x1f, 1000, 1, OWN);
        byte[] yes = says(0x1f, 1000, 2, OWN);
        is("of alike ones the later one", ada(no, yes), 1000, 0);
        is("of alike ones the later one", ada(yes, no), 1000, 5);
        byte[] u = Kit.user("u");
        byte[] v = Kit.user("v");
        byte[] noUser = says(0x13, 1000, 1, USER);
        byte[] yesUser = says(0x12, 1000, 2, USER);
        is("of alike ones the later one, of a user", ada(u, noUser, yesUser), 1000, 0);
        is("of alike ones the later one, of a user", ada(u, yesUser, noUser), 1000, 5);
        is("of alike ones the key's own first", ada(no, u, yesUser), 1000, 5);
        is("of alike ones the key's own first", ada(yes, u, noUser), 1000, 0);
        is("then users in order", ada(u, noUser, v, says(0x13, 1000, 2, OTHER)), 1000, 5);
        is("then users in order", ada(u, yesUser, v, says(0x13, 1000, 1, OTHER)), 1000, 0);
        is("then users in order", ada(v, says(0x13, 1000, 1, OTHER), u, yesUser), 1000, 5);
    }

    private static byte[] against(long made) {
        return Kit.seal(0x30, made).by(ADA, USER);
    }

    private static void revokedUsers() {
        byte[] bound = Kit.cat(Kit.user("u"), Kit.seal(0x13, 1010).by(ADA, USER));
        is("0x30 made earlier", ada(bound, against(1009)), 1009, 4, 1010, 0, 1011, 0);
        is("0x30 made no earlier, at once", ada(bound, against(1010)), 1009, 4, 1010, 4, 1011, 4);
        is("0x30 made no earlier, later", ada(bound, against(1011)), 1010, 0, 1011, 4);
        is("0x30 that ended", ada(bound, Kit.seal(0x30, 1011).lasts(1).by(ADA, USER)), 1010, 0, 1011, 4, 1012, 0);
        is("0x30 made before the key", ada(bound, against(999)), 1010, 0);
        is("0x30 by another", ada(bound, Kit.seal(0x30, 1011).by(BO, USER)), 1011, 0);
        is("0x30 of another user", ada(bound, Kit.user("v"), Kit.seal(0x30, 1011).by(ADA, OTHER)), 1011, 0);
        is("0x30 that is vain", ada(bound, new Kit.Making(0x30).by(ADA, USER)), 1011, 0);
        is("0x31 is none", ada(bound, Kit.seal(0x31, 1011).by(ADA, USER)), 1011, 0);
        is("0x2f is none", ada(bound, Kit.seal(0x2f, 1011).by(ADA, USER)), 1011, 0);
        is("sealed again", ada(bound, against(1011), Kit.seal(0x13, 1012).by(ADA, USER)), 1011, 4, 1012, 0);
        is("sealed again, not after it", ada(bound, against(1012), Kit.seal(0x13, 1012).by(ADA, USER)), 1011, 0, 1012, 4);
        is("the earlier of two 0x30 is not asked", ada(bound, against(1011), against(1005)), 1010, 0, 1011, 4);
        is("why is not asked", ada(bound, Kit.seal(0x30, 1020).why(2).by(ADA, USER)), 1019, 0, 1020, 4);
    }

    private static byte[] revoking(long made) {
        return Kit.seal(0x20, made).why(1).by(ADA, OWN);
    }

    private static void revokedKeys() {
        is("a seal 0x20 that counts", ada(BOND, revoking(1010)), 1009, 0, 1010, 3, LAST, 3);
        is("a seal 0x20 that counts, made with the key", ada(BOND, revoking(1000)), 999, 1, 1000, 3);
        is("a seal 0x20 made before the key", ada(BOND, revoking(999)), 1000, 0, LAST, 0);
        is("a seal 0x20 that ended", ada(BOND, Kit.seal(0x20, 1010).why(3).lasts(5).by(ADA, OWN)), 1014, 3, 1015, 0);
        is("a seal 0x20 by another", ada(BOND, Kit.seal(0x20, 1010).by(BO, OWN)), 1010, 0);
        is("a seal 0x20 of another thing", ada(BOND, Kit.seal(0x20, 1010).by(ADA, USER)), 1010, 0);
        is("a seal 0x21 is none", ada(BOND, Kit.seal(0x21, 1010).by(ADA, OWN)), 1010, 0);
        is("a seal 0x28 is none", ada(BOND, Kit.seal(0x28, 1010).by(ADA, OWN)), 1010, 0);
        is("a seal 0x20 that is vain", ada(BOND, new Kit.Making(0x20).by(ADA, OWN)), 1010, 0);
    }

    private static void whyNot() {
        for (int why = 0; why < 256; why++) {
            boolean soft = why == 1 || why == 3;
            byte[] seal = Kit.seal(0x20, 1010).lasts(5).why(why).by(ADA, OWN);
            is("says not why 1 or 3: " + why, ada(BOND, seal), 999, 1, 1000, soft ? 0 : 3, 1009, soft ? 0 : 3, 1010, 3, 1014, 3, 1015,
                soft ? 0 : 3);
        }
        is("says not why", ada(BOND, Kit.seal(0x20, 1010).by(ADA, OWN)), 999, 1, 1000, 3);
        is("says not why, made before the key", ada(BOND, Kit.seal(0x20, 5).by(ADA, OWN)), 999, 1, 1000, 3);
        is("the first byte", ada(BOND, Kit.seal(0x20, 1010).sealed(Kit.note(29, 1, 2)).by(ADA, OWN)), 1000, 0);
        is("the first byte", ada(BOND, Kit.seal(0x20, 1010).sealed(Kit.note(29, 2, 1)).by(ADA, OWN)), 1000, 3);
    }

    private static void orderOfStates() {
        byte[] all = Kit.seal(0x1f, 1005).keyLasts(10).uses(1).by(ADA, OWN);
        is("1, 4, 5, 2", ada(all), 999, 1, 1000, 4, 1004, 4, 1005, 5, 1009, 5, 1010, 2);
        is("1, 4, 5, 3", ada(all, revoking(1007)), 999, 1, 1004, 4, 1005, 5, 1007, 3, 1010, 3);
        is("3 before 4", ada(revoking(1007)), 1006, 4, 1007, 3);
        is("3 before 2", ada(all, revoking(1012)), 1010, 2, 1012, 3);
    }

    private static Kit.Making bound(long made) {
        return Kit.seal(0x18, made).uses(2).sealed(inside(Kit.seal(0x19, 1100)));
    }

    private static byte[] inside(Kit.Making making) {
        return Kit.note(32, making.body(SUB, PART));
    }

    private static byte[] sub(Kit.Making making) {
        return Kit.cat(SUB.part(), making.by(ADA, PART));
    }

    private static void partAsItsKey() {
        byte[] part = sub(bound(1100));
        partIs("as its key, where that is 1", ada(BOND, part), 999, 1);
        partIs("as its key, where that is 2", ada(ending(200), part), 1199, 0, 1200, 2);
        partIs("as its key, where that is 3", ada(BOND, revoking(1200), part), 1199, 0, 1200, 3);
        partIs("as its key, where that is 4", ada(part), 1100, 4, LAST, 4);
        partIs("as its key, where that is 4", ada(part), 1000, 4, 1050, 4);
        partIs("not as its key, where that is 5", ada(says(0x1f, 1000, 1, OWN), part), 1000, 1, 1100, 0);
        is("its key", ada(says(0x1f, 1000, 1, OWN), part), 1100, 5);
    }

    private static void partNotYet() {
        partIs("1", ada(BOND, sub(bound(1100))), 1000, 1, 1099, 1, 1100, 0);
        partIs("1 before 3", ada(BOND, sub(bound(1100)), Kit.seal(0x28, 1100).by(ADA, PART)), 1099, 1, 1100, 3);
        partIs("1 before 4", ada(BOND, SUB.part()), 1099, 1, 1100, 4);
        Kit.Pair old = new Kit.Pair(497, 5, 5, 3);
        partIs("a part older than its key", ada(BOND, old.part()), 4, 1, 5, 1, 999, 1, 1000, 4);
    }

    private static void revokedParts() {
        byte[] part = sub(bound(1100));
        for (int why = 0; why < 256; why += why < 5 ? 1 : 25) {
            boolean soft = why == 1 || why == 3;
            byte[] seal = Kit.seal(0x28, 1200).lasts(5).why(why).by(ADA, PART);
            partIs("0x28 likewise, why " + why, ada(BOND, part, seal), 1099, 1, 1100, soft ? 0 : 3, 1199, soft ? 0 : 3, 1200, 3, 1204, 3, 1205,
                soft ? 0 : 3);
        }
        partIs("0x28 likewise, not before the key", ada(BOND, part, Kit.seal(0x28, 999).why(1).by(ADA, PART)), 1100, 0);
        partIs("0x28 likewise, with the key", ada(BOND, part, Kit.seal(0x28, 1000).why(1).by(ADA, PART)), 1099, 1, 1100, 3);
        partIs("0x28 of the key, not of the part", ada(BOND, part, Kit.seal(0x28, 1200).by(SUB, PART)), 1200, 0);
        partIs("0x20 is none", ada(BOND, part, Kit.seal(0x20, 1200).by(ADA, PART)), 1200, 0);
        partIs("0x29 is none", ada(BOND, part, Kit.seal(0x29, 1200).by(ADA, PART)), 1200, 0);
        partIs("vain", ada(BOND, part, new Kit.Making(0x28).by(ADA, PART)), 1200, 0);
        partIs("3 before 4", ada(BOND, SUB.part(), Kit.seal(0x28, 1200).why(1).by(ADA, PART)), 1199, 4, 1200, 3);
    }

    private static void bondsOfParts() {
        partIs("a seal 0x18 that counts", ada(BOND, sub(bound(1200))), 1199, 4, 1200, 0);
        partIs("a seal 0x18 made before the part", ada(BOND, sub(bound(1000))), 1099, 1, 1100, 0);
        partIs("a seal 0x18 made before the key", ada(BOND, sub(bound(999))), 1100, 4);
        partIs("a seal 0x18 that ends", ada(BOND, sub(bound(1100).lasts(50))), 1149, 0, 1150, 4);
        partIs("a seal 0x18 of the key, not of another", ada(BOND, SUB.part(), bound(1100).by(BO, PART)), 1100, 4);
        for (int type : new int[] {0x10, 0x13, 0x17, 0x18, 0x19, 0x1f}) {
            byte[] seal = Kit.seal(type, 1100).uses(2).sealed(inside(Kit.seal(0x19, 1100))).by(ADA, PART);
            partIs("a seal 0x18, not " + type, ada(BOND, SUB.part(), seal), 1100, type == 0x18 ? 0 : 4);
        }
        byte[] no = bound(1100).uses(1).by(ADA, PART);
        byte[] yes = bound(1100).by(ADA, PART);
        byte[] later = bound(1101).by(ADA, PART);
        partIs("the one made last", ada(BOND, SUB.part(), no, later), 1100, 5, 1101, 0);
        partIs("the one made last", ada(BOND, SUB.part(), later, no), 1100, 5, 1101, 0);
        partIs("the later one", ada(BOND, SUB.part(), no, yes), 1100, 0);
        partIs("the later one", ada(BOND, SUB.part(), yes, no), 1100, 5);
    }

    private static void endedParts() {
        partIs("2, from when the part was made", ada(BOND, sub(bound(1100).keyLasts(50))), 1149, 0, 1150, 2, LAST, 2);
        partIs("2, from when the part was made", ada(BOND, sub(bound(1120).keyLasts(50))), 1119, 4, 1149, 0, 1150, 2);
        partIs("2, 0 never", ada(BOND, sub(bound(1100).keyLasts(0))), LAST, 0);
        partIs("2, at the last time", ada(BOND, sub(bound(1100).keyLasts(LAST - 1100))), LAST - 1, 0, LAST, 2);
        partIs("2, beyond the last time", ada(BOND, sub(bound(1100).keyLasts(LAST - 1099))), LAST, 0);
        partIs("2 before 5", ada(BOND, sub(bound(1100).keyLasts(50).uses(1))), 1149, 5, 1150, 2);
    }

    private static void whatPartsAreFor() {
        for (int what = 0; what < 256; what += 3) {
            partIs("5 when 27 is without 2: " + what, ada(BOND, sub(bound(1100).uses(what))), 1100, (what & 2) == 0 ? 5 : 0);
        }
        byte[] back = inside(Kit.seal(0x19, 1100));
        partIs("5 when that has no 27", ada(BOND, sub(Kit.seal(0x18, 1100).sealed(back))), 1100, 5);
        partIs("5 when that has no sealed 27", ada(BOND, sub(Kit.seal(0x18, 1100).sealed(back).other(Kit.note(27, 2)))), 1100, 5);
        partIs("5 before 6", ada(BOND, sub(Kit.seal(0x18, 1100))), 1100, 5);
        partIs("5 before 6", ada(BOND, sub(Kit.seal(0x18, 1100).uses(1))), 1100, 5);
    }

    private static void insideIs(String sentence, byte[] note, long... pairs) {
        partIs(sentence, ada(BOND, sub(Kit.seal(0x18, 1100).uses(2).sealed(note))), pairs);
    }

    private static void sealsInside() {
        partIs("6 when it has no note 32", ada(BOND, sub(Kit.seal(0x18, 1100).uses(2))), 1100, 6);
        insideIs("with a note 32", inside(Kit.seal(0x19, 1100)), 1100, 0);
        insideIs("made at t or before", inside(Kit.seal(0x19, 1105)), 1104, 6, 1105, 0, 1106, 0);
        insideIs("made before the part, and before the key", inside(Kit.seal(0x19, 0)), 1100, 0);
        insideIs("made at the last time", inside(Kit.seal(0x19, LAST)), LAST - 1, 6, LAST, 0);
        insideIs("whether it has ended is not asked", inside(Kit.seal(0x19, 1100).lasts(1)), 1100, 0, 1101, 0);
        insideIs("by the first hash", inside(Kit.seal(0x19, 1100).first()), 1100, 0);
        byte[] body = Kit.seal(0x19, 1100).body(SUB, PART);
        insideIs("of no bytes", Kit.note(32), 1100, 6);
        for (int size = 1; size < body.length; size += 9) {
            insideIs("not all there, " + size, Kit.note(32, Kit.cut(body, 0, size)), 1100, 6);
        }
        insideIs("a byte behind", Kit.note(32, Kit.cat(body, Kit.row(0))), 1100, 6);
        insideIs("a packet", Kit.note(32, Kit.packet(2, body)), 1100, 6);
        insideIs("of another version", Kit.note(32, Kit.with(body, 0, 3)), 1100, 6);
        insideIs("of another 1", Kit.note(32, Kit.with(body, 2, 2)), 1100, 6);
        insideIs("of another hash", Kit.note(32, Kit.with(body, 3, 10)), 1100, 6);
        insideIs("vain", inside(new Kit.Making(0x19)), 1100, 6);
        insideIs("vain by a grave note", inside(Kit.seal(0x19, 1100).sealed(Kit.note(228, 1))), 1100, 6);
        insideIs("true by the part, not by the key", Kit.note(32, Kit.seal(0x19, 1100).body(ADA, PART)), 1100, 6);
        insideIs("of the key and the part", Kit.note(32, Kit.seal(0x19, 1100).body(SUB, Kit.thing(SUB, ADA))), 1100, 6);
        insideIs("of the key and the part", Kit.note(32, Kit.seal(0x19, 1100).body(SUB, Kit.thing(SUB))), 1100, 6);
        BigInteger s = new BigInteger(1, Kit.seal(0x19, 1100).frame(63, PART)).modPow(SUB.d, SUB.n);
        insideIs("s below n", Kit.note(32, Kit.seal(0x19, 1100).body(PART, s)), 1100, 0);
        insideIs("s not below n", Kit.note(32, Kit.seal(0x19, 1100).body(PART, s.add(SUB.n))), 1100, 6);
    }

    private static void typesInside() {
        for (int type = 0; type < 256; type++) {
            insideIs("a seal of type 0x19, not " + type, inside(Kit.seal(type, 1100)), 1100, type == 0x19 ? 0 : 6);
        }
    }

    /** What was asked for before leaves nothing behind, and what is joined later counts. */
    private static void oneAfterTheOther() {
        byte[] vain = inside(new Kit.Making(0x19).sealed(Kit.note(128)));
        Kit.Pair second = new Kit.Pair(505, 7, 1100, 4);
        byte[] thing = Kit.thing(ADA, second);
        byte[] good = Kit.note(32, Kit.seal(0x19, 1100).body(second, thing));
        byte[] other = Kit.cat(second.part(), Kit.seal(0x18, 1100).uses(2).sealed(good).by(ADA, thing));
        Run parts = new Run("one part after another").join(1, ada(BOND, sub(Kit.seal(0x18, 1100).uses(2).sealed(vain)), other));
        parts.usable(6, 0, 0, 1100).usable(0, 0, 1, 1100).usable(6, 0, 0, 1100).usable(0, 0, -1, 1100).usable(0, 0, 1, 1100);
        Run later = new Run("a seal that is joined later").join(1, ADA.key()).usable(4, 0, -1, 1000).join(1, ada(BOND)).usable(0, 0, -1, 1000);
        later.join(1, ada(SUB.part())).usable(4, 0, 0, 1100).join(1, ada(sub(bound(1100)))).usable(0, 0, 0, 1100);
        later.join(1, ada(revoking(1200))).usable(0, 0, 0, 1199).usable(3, 0, 0, 1200).usable(3, 0, -1, 1200).usable(0, 0, -1, 1199);
        Run two = new Run("one key after another").join(2, ada(BOND), BO.key(), Kit.seal(0x1f, 1000).by(BO, Kit.thing(BO)));
        two.usable(0, 0, -1, 1000).usable(0, 1, -1, 1000).usable(0, 0, -1, 1000).drop(1, 0).usable(0, 0, -1, 1000);
        two.join(1, ADA.key()).usable(4, 1, -1, 1000).join(1, ada(BOND)).usable(0, 1, -1, 1000).usable(0, 0, -1, 1000);
        Run gone = new Run("a seal that a fault took back").join(1, ada(BOND)).usable(0, 0, -1, 1200);
        gone.join(-1 - ada(revoking(1200)).length, ada(revoking(1200)), Kit.row(0)).usable(0, 0, -1, 1200);
    }

    private static void wrongAsked() {
        Run x = new Run("9: which key, which part").join(1, ada(BOND, SUB.part()));
        for (int bad : new int[] {-1, 1, 16, Integer.MIN_VALUE, Integer.MAX_VALUE}) {
            x.usable(Kit.INDEX, bad, -1, 1000).usable(Kit.INDEX, bad, 0, 1000);
        }
        for (int bad : new int[] {-2, 1, 8, Integer.MIN_VALUE, Integer.MAX_VALUE}) {
            x.usable(Kit.INDEX, 0, bad, 1000);
        }
        x.usable(0, 0, -1, 1000).usable(1, 0, 0, 1000).usable(Kit.ARGUMENT, 0, -1, -1).usable(Kit.ARGUMENT, 0, -1, LAST + 1);
        x.usable(0, 0, -1, LAST).usable(1, 0, -1, 0);
    }
}
