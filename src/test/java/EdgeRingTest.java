import java.util.Arrays;

/** Edges of the ring: what may be read, what there is room for, what is joined; promises 3 join, 11 export, 16 drop. */
public final class EdgeRingTest {
    private static final byte[] KEY = key(7);
    private static final int SIZE = KEY.length;
    private static final byte[] PASSED = Kit.packet(12, Kit.row(1, 2, 3));

    public static void main(String[] args) {
        oneOrMoreKeys();
        beforeTheFirstKey();
        passedKinds();
        kindAlone();
        anyOrder();
        whereSealsBelong();
        sixteenKeys();
        eightUsers();
        longUsers();
        eightParts();
        sixteenSeals();
        roomInOneJoin();
        firstFault();
        comesAgain();
        otherBytes();
        secrets();
        behindThoseThatAreThere();
        nothingIsLeftOfAFault();
        dropped();
        Kit.done();
    }

    private static byte[] key(int made) {
        return Kit.packet(6, Run.anyKey(made));
    }

    private static byte[] part(int made) {
        return Kit.packet(14, Run.anyKey(made));
    }

    private static byte[] secretKey(int made) {
        return Kit.packet(5, Run.anySecret(Run.anyKey(made)));
    }

    private static byte[] secretPart(int made) {
        return Kit.packet(7, Run.anySecret(Run.anyKey(made)));
    }

    private static byte[] keys(int from, int to) {
        byte[] all = new byte[0];
        for (int i = from; i < to; i++) {
            all = Kit.cat(all, key(i));
        }
        return all;
    }

    private static byte[] parts(int from, int to) {
        byte[] all = new byte[0];
        for (int i = from; i < to; i++) {
            all = Kit.cat(all, part(i));
        }
        return all;
    }

    private static byte[] users(int from, int to) {
        byte[] all = new byte[0];
        for (int i = from; i < to; i++) {
            all = Kit.cat(all, Kit.user("u" + (char) ('a' + i)));
        }
        return all;
    }

    private static byte[] seals(int from, int to) {
        byte[] all = new byte[0];
        for (int i = from; i < to; i++) {
            all = Kit.cat(all, Kit.idle(i));
        }
        return all;
    }

    private static Run run(String sentence) {
        return new Run(sentence);
    }

    private static void oneOrMoreKeys() {
        run("no key is missing").join(1, KEY).keys(1);
        run("more keys").join(3, keys(0, 3)).keys(3);
        run("the number of all, where a key is missing").join(-1).keys(0);
        run("the number of all, where a key is missing").join(-1 - 5, PASSED).keys(0);
        run("the number of all, where a key is missing").join(-1 - 10, PASSED, PASSED).keys(0);
        run("a key that comes again is read again").join(3, key(1), key(2), key(1)).keys(2);
    }

    private static void beforeTheFirstKey() {
        byte[][] packets = {Kit.idle(1), Kit.user("u"), part(1), secretPart(1), Kit.packet(2, Kit.row(3))};
        for (byte[] packet : packets) {
            run("a kind that may not be there").join(-1, packet, KEY).keys(0);
            run("a kind that may not be there").join(-1 - 5, PASSED, packet, KEY).keys(0);
            run("behind a key it may be there").join(1, KEY, packet).keys(1);
        }
        run("a key of the ring is not what came before").join(1, KEY).join(-1, Kit.user("u")).join(-1, Kit.idle(1)).join(-1, part(1))
            .keyIs(0, 0, 0, 0, 0);
    }

    private static void passedKinds() {
        for (int kind = 0; kind < 64; kind++) {
            boolean passed = kind == 10 || kind == 12 || kind == 17 || kind >= 40;
            boolean known = kind == 2 || kind == 5 || kind == 6 || kind == 7 || kind == 13 || kind == 14;
            byte[] packet = Kit.packet(kind, Kit.row(9, 9));
            String sentence = "kinds 10, 12 and 17, and 40 to 63 are passed, not " + kind;
            run(sentence + ", before the first key").join(passed ? 1 : -1, packet, KEY).keys(passed ? 1 : 0);
            if (!known) {
                run(sentence).join(passed ? 1 : -1 - SIZE, KEY, packet).keys(passed ? 1 : 0);
                run(sentence + ", of no bytes").join(passed ? 1 : -1 - SIZE, KEY, Kit.packet(kind, new byte[0]));
            }
            if (passed) {
                run("in what is looked at they may not be there").look(-1, 5, packet);
                byte[] seal = Run.makerSeal(0, new byte[0]);
                run("in what is looked at they may not be there").look(-1, 5, packet, seal);
                run("in what is looked at they may not be there").look(-1 - seal.length, 5, seal, packet);
                run("without it").look(2, 5, seal);
            }
        }
    }

    /** What stands in a packet tells nothing of its kind. */
    private static void kindAlone() {
        byte[][] bodies = {Run.anyKey(8), Run.anySecret(Run.anyKey(8)), Kit.cut(Kit.idle(1), 2, 14)};
        for (int kind = 0; kind < 64; kind++) {
            boolean passed = kind == 10 || kind == 12 || kind == 17 || kind >= 40;
            for (int i = 0; i < 3; i++) {
                boolean fits = i == 0 ? kind == 6 || kind == 14 : i == 1 ? kind == 5 || kind == 7 : kind == 2;
                // a key's bytes as a seal have another 1: that one is passed
                boolean right = passed || fits || kind == 13 || kind == 2;
                long due = !right ? -1 - SIZE : fits && (kind == 5 || kind == 6) ? 2 : 1;
                Run x = run("kind " + kind + " with what another has").join(due, KEY, Kit.packet(kind, bodies[i]));
                x.keys(due < 0 ? 0 : due);
                if (due == 1) {
                    x.keyIs(0, kind == 13 ? 1 : 0, fits && i < 2 ? 1 : 0, fits && i == 2 ? 1 : 0, 0);
                }
            }
        }
    }

    private static void anyOrder() {
        byte[][] things = {Kit.idle(1), Kit.user("u"), part(1)};
        for (int i = 0; i < 27; i++) {
            byte[] all = Kit.cat(things[i % 3], things[i / 3 % 3], things[i / 9]);
            run("seals, users, parts, in any order").join(1, KEY, all).keys(1);
        }
    }

    private static void whereSealsBelong() {
        byte[] want = Kit.cat(KEY, Kit.idle(1), Kit.user("u"), Kit.idle(2), part(1), Kit.idle(3));
        run("a seal belongs to what came before it").join(1, want).export(want.length, 0).outIs(want);
        run("what is passed between is nothing").join(1, KEY, PASSED, Kit.idle(1), Kit.user("u"), PASSED, Kit.idle(2), part(1), PASSED,
            Kit.idle(3)).export(want.length, 0).outIs(want);
        byte[] mixed = Kit.cat(KEY, part(1), Kit.idle(3), Kit.user("u"), Kit.idle(2), KEY, Kit.idle(1));
        run("a key that comes again is what came before").join(2, mixed).export(want.length, 0).outIs(want);
        byte[] again = Kit.cat(KEY, Kit.idle(1), Kit.user("u"), part(1), Kit.idle(3), Kit.user("u"), Kit.idle(2));
        run("a user that comes again is what came before").join(1, again).export(want.length, 0).outIs(want);
        byte[] partAgain = Kit.cat(KEY, Kit.idle(1), part(1), Kit.user("u"), Kit.idle(2), part(1), Kit.idle(3));
        run("a part that comes again is what came before").join(1, partAgain).export(want.length, 0).outIs(want);
        byte[] second = Kit.cat(key(8), Kit.idle(4));
        run("a seal belongs to the key before it").join(2, want, second).export(second.length, 1).outIs(second).export(want.length, 0);
    }

    private static void sixteenKeys() {
        run("16 keys at most: 16").join(16, keys(0, 16)).keys(16);
        run("16 keys at most: 17").join(-1 - 16 * SIZE, keys(0, 17)).keys(0);
        run("16 keys at most: 15 and 1").join(15, keys(0, 15)).join(1, key(15)).keys(16).key(15, 15, 0);
        run("16 keys at most: 15 and 2").join(15, keys(0, 15)).join(-1 - SIZE, key(15), key(16)).keys(15);
        run("16 keys at most: 16 and 1").join(16, keys(0, 16)).join(-1, key(16)).keys(16);
        run("room is asked for what is new alone: a key").join(16, keys(0, 16)).join(2, key(0), key(15), Kit.user("u")).keys(16)
            .keyIs(15, 1, 0, 0, 0);
        run("a secret needs no room").join(16, keys(0, 16)).join(1, secretKey(15)).keyIs(15, 0, 0, 0, 1);
        run("a secret key needs room").join(16, keys(0, 16)).join(-1, secretKey(16)).keys(16);
    }

    private static void eightUsers() {
        run("8 users at most: 8").join(1, KEY, users(0, 8)).keyIs(0, 8, 0, 0, 0);
        run("8 users at most: 9").join(-1 - SIZE - 8 * 4, KEY, users(0, 9)).keys(0);
        run("8 users at most: 7 and 1").join(1, KEY, users(0, 7)).join(1, KEY, users(7, 8)).keyIs(0, 8, 0, 0, 0);
        run("8 users at most: 7 and 2").join(1, KEY, users(0, 7)).join(-1 - SIZE - 4, KEY, users(7, 9)).keyIs(0, 7, 0, 0, 0);
        run("8 users at most: 8 and 1").join(1, KEY, users(0, 8)).join(-1 - SIZE, KEY, users(8, 9)).keyIs(0, 8, 0, 0, 0);
        run("room is asked for what is new alone: a user").join(1, KEY, users(0, 8)).join(1, KEY, users(0, 8), users(7, 8), Kit.idle(1))
            .keyIs(0, 8, 0, 1, 0);
        run("8 users at each key").join(2, KEY, users(0, 8), key(8), users(0, 8)).keyIs(0, 8, 0, 0, 0).keyIs(1, 8, 0, 0, 0);
    }

    private static void longUsers() {
        byte[] longest = new byte[200];
        Arrays.fill(longest, (byte) 'x');
        run("a user of 199 bytes").join(1, KEY, Kit.packet(13, Kit.cut(longest, 0, 199))).keyIs(0, 1, 0, 0, 0);
        run("a user of 200 bytes").join(1, KEY, Kit.packet(13, longest)).keyIs(0, 1, 0, 0, 0);
        run("a user of 201 bytes").join(-1 - SIZE, KEY, Kit.packet(13, Kit.cat(longest, Kit.row(0)))).keys(0);
        run("a user of 201 bytes, whose first 200 are there").join(1, KEY, Kit.packet(13, longest))
            .join(-1 - SIZE, KEY, Kit.packet(13, Kit.cat(longest, Kit.row(0)))).keyIs(0, 1, 0, 0, 0);
        run("a user of 3000 bytes").join(-1 - SIZE, KEY, Kit.packet(13, new byte[3000])).keys(0);
        run("a user of no bytes").join(1, KEY, Kit.user("")).keyIs(0, 1, 0, 0, 0);
        run("a user of no bytes, again").join(1, KEY, Kit.user(""), Kit.user("")).keyIs(0, 1, 0, 0, 0);
        run("8 users of 200 bytes are there, and one of them comes again").join(1, KEY, users(0, 7), Kit.packet(13, longest))
            .join(1, KEY, Kit.packet(13, longest)).keyIs(0, 8, 0, 0, 0);
    }

    private static void eightParts() {
        run("8 parts at most: 8").join(1, KEY, parts(0, 8)).keyIs(0, 0, 8, 0, 0);
        run("8 parts at most: 9").join(-1 - 9 * SIZE, KEY, parts(0, 9)).keys(0);
        run("8 parts at most: 7 and 1").join(1, KEY, parts(0, 7)).join(1, KEY, part(7)).keyIs(0, 0, 8, 0, 0);
        run("8 parts at most: 7 and 2").join(1, KEY, parts(0, 7)).join(-1 - 2 * SIZE, KEY, parts(7, 9)).keyIs(0, 0, 7, 0, 0);
        run("8 parts at most: 8 and 1").join(1, KEY, parts(0, 8)).join(-1 - SIZE, KEY, part(8)).keyIs(0, 0, 8, 0, 0);
        run("room is asked for what is new alone: a part").join(1, KEY, parts(0, 8)).join(1, KEY, part(0), part(7), Kit.idle(1))
            .keyIs(0, 0, 8, 1, 0);
        run("a part's secret needs no room").join(1, KEY, parts(0, 8)).join(1, KEY, secretPart(7)).seal(115, 0, 7, 0, 5);
        run("a secret part needs room").join(1, KEY, parts(0, 8)).join(-1 - SIZE, KEY, secretPart(8)).keyIs(0, 0, 8, 0, 0);
        run("8 parts at each key").join(2, KEY, parts(0, 8), key(8), parts(0, 8)).keyIs(0, 0, 8, 0, 0).keyIs(1, 0, 8, 0, 0);
        run("8 users and 8 parts").join(1, KEY, parts(0, 8), users(0, 8)).keyIs(0, 8, 8, 0, 0);
        run("a key among its own parts").join(1, KEY, part(7), part(7)).keyIs(0, 0, 1, 0, 0);
    }

    private static void sixteenSeals() {
        byte[][] places = {KEY, Kit.cat(KEY, Kit.user("u")), Kit.cat(KEY, part(1))};
        for (byte[] place : places) {
            int behind = -1 - place.length;
            run("16 seals at each place: 16").join(1, place, seals(0, 16)).key(16, 0, 4);
            run("16 seals at each place: 17").join(behind - 16 * 14, place, seals(0, 17)).keys(0);
            run("16 seals at each place: 15 and 1").join(1, place, seals(0, 15)).join(1, place, seals(15, 16)).key(16, 0, 4);
            run("16 seals at each place: 15 and 2").join(1, place, seals(0, 15)).join(behind - 14, place, seals(15, 17)).key(15, 0, 4);
            run("16 seals at each place: 16 and 1").join(1, place, seals(0, 16)).join(behind, place, seals(16, 17)).key(16, 0, 4);
            run("room is asked for what is new alone: a seal").join(1, place, seals(0, 16)).join(1, place, seals(0, 16), seals(3, 5))
                .key(16, 0, 4);
            run("one that is passed needs no room").join(1, place, seals(0, 16)).join(1, place, Kit.packet(2, Kit.row(3))).key(16, 0, 4);
            run("one that is wrong is wrong").join(1, place, seals(0, 16)).join(behind, place, Kit.packet(2, Kit.row(4))).key(16, 0, 4);
        }
        byte[] all = Kit.cat(KEY, seals(0, 16), Kit.user("u"), seals(0, 16), Kit.user("v"), seals(0, 16), part(1), seals(0, 16), part(2),
            seals(0, 16));
        run("16 seals at each of several places").join(1, all).key(80, 0, 4).export(all.length, 0).outIs(all);
    }

    private static void roomInOneJoin() {
        run("at the packet that finds none: a key, then what is wrong").join(16, keys(0, 16)).join(-1 - SIZE, key(0), key(16), Kit.row(1));
        run("what is wrong, then a key").join(16, keys(0, 16)).join(-1 - SIZE, key(0), Kit.row(192 | 1, 0), key(16));
        run("a key that is wrong is wrong, be there room or not").join(16, keys(0, 16)).join(-1 - SIZE, key(0), Kit.packet(6, Kit.row(4)));
        run("a part that is wrong").join(1, KEY, parts(0, 8)).join(-1 - SIZE, KEY, Kit.packet(14, Kit.row(4)));
        run("what comes twice at once is new once").join(1, KEY, users(0, 7)).join(1, KEY, users(7, 8), users(7, 8)).keyIs(0, 8, 0, 0, 0);
        run("a key that comes twice at once is new once").join(15, keys(0, 15)).join(2, key(15), key(15)).keys(16);
        run("a seal that comes twice at once is new once").join(1, KEY, seals(0, 15)).join(1, KEY, Kit.idle(15), Kit.idle(15)).key(16, 0, 4);
    }

    private static void firstFault() {
        byte[] spoilt = Kit.packet(13, new byte[201]);
        run("the first packet that is wrong").join(-1 - SIZE, KEY, spoilt, Kit.row(1)).keys(0);
        run("the first packet that is wrong").join(-1 - SIZE, KEY, Kit.row(1), spoilt).keys(0);
        run("the first packet that is wrong").join(-1, spoilt, KEY).keys(0);
        run("a packet not all there is the last").join(-1 - 2 * SIZE, KEY, part(1), Kit.cut(part(2), 0, SIZE - 1)).keys(0);
    }

    private static void comesAgain() {
        byte[] all = Kit.cat(KEY, Kit.idle(1), Kit.user("u"), Kit.idle(2), part(1), Kit.idle(3));
        run("a key, part or user that comes again is the one that is there").join(1, all).join(1, all).keys(1).keyIs(0, 1, 1, 3, 0)
            .export(all.length, 0).outIs(all);
        run("a key, part or user that comes again is the one that is there").join(2, all, all).keys(1).keyIs(0, 1, 1, 3, 0)
            .export(all.length, 0).outIs(all);
        run("a part of one key is none of another").join(2, KEY, part(1), key(8)).keyIs(0, 0, 1, 0, 0).keyIs(1, 0, 0, 0, 0);
        run("a key is no part").join(2, KEY, part(8), key(8)).keys(2).keyIs(0, 0, 1, 0, 0);
        run("a part is no key").join(2, KEY, key(8), part(7)).keys(2).keyIs(1, 0, 1, 0, 0);
    }

    private static void otherBytes() {
        run("users of other bytes").join(1, KEY, Kit.user("u"), Kit.user("U"), Kit.user("uu"), Kit.user("u ")).keyIs(0, 4, 0, 0, 0);
        byte[] seal = Kit.idle(1);
        byte[] last = Kit.with(Kit.idle(1), 13, 0);
        run("seals of other bytes").join(1, KEY, seal, Kit.with(seal, 3, 0x11), Kit.with(seal, 11, 2), last).key(3, 0, 4);
        byte[] longer = Kit.packet(2, Kit.cat(Kit.cut(seal, 2, 12), Kit.row(0, 1, 1)));
        run("seals of other bytes").join(1, KEY, seal, longer).key(2, 0, 4);
        byte[] old = Kit.cat(Kit.row(128 | 2 << 2 | 1, 0, 12), Kit.cut(seal, 2, 14));
        run("the same bytes in another packet").join(1, KEY, seal, old).key(1, 0, 4);
        run("keys of other prints").join(2, key(7), key(8)).keys(2);
        run("the same seal at other places").join(1, KEY, seal, Kit.user("u"), seal, part(1), seal).key(3, 0, 4);
    }

    private static void secrets() {
        run("its secret, if it had none").join(1, KEY).key(0, 0, 5).join(1, secretKey(7)).key(1, 0, 5).keys(1);
        run("its secret stays").join(1, secretKey(7)).join(1, KEY).key(1, 0, 5);
        run("likewise parts").join(1, KEY, part(1)).seal(Kit.STATE, 0, 0, 0, 5).join(1, KEY, secretPart(1)).seal(115, 0, 0, 0, 5)
            .key(0, 0, 5).keyIs(0, 0, 1, 0, 0);
        run("a part's secret stays").join(1, KEY, secretPart(1)).join(1, KEY, part(1)).seal(115, 0, 0, 0, 5);
        run("a secret and none at once").join(2, secretKey(7), KEY).keys(1).key(1, 0, 5);
        run("none and a secret at once").join(2, KEY, secretKey(7)).keys(1).key(1, 0, 5);
        java.math.BigInteger none = java.math.BigInteger.ZERO;
        byte[] other = Kit.packet(5, Kit.secretOf(Run.anyKey(7), none, none, none, none));
        // a secret of 0 makes the number 1, which takes a byte and not 62
        run("the secret that it had stays").join(1, secretKey(7)).join(1, other).seal(115, 0, -1, 0, 5);
        run("the secret that it had stays").join(1, other).join(1, secretKey(7)).seal(115 - 61, 0, -1, 0, 5);
        run("a key's secret is not its part's").join(1, secretKey(7), part(7)).seal(115, 0, -1, 0, 5).seal(Kit.STATE, 0, 0, 0, 5);
        run("a part's secret is not its key's").join(1, KEY, secretPart(7)).seal(Kit.STATE, 0, -1, 0, 5).seal(115, 0, 0, 0, 5);
    }

    private static void behindThoseThatAreThere() {
        byte[] first = Kit.cat(KEY, Kit.idle(1), Kit.user("u"), Kit.idle(1), part(1), Kit.idle(1));
        byte[] more = Kit.cat(KEY, Kit.idle(2), Kit.idle(1), part(2), part(1), Kit.idle(3), Kit.idle(1), Kit.user("a"), Kit.user("u"),
            Kit.idle(0), Kit.idle(1));
        byte[] want = Kit.cat(KEY, Kit.idle(1), Kit.idle(2), Kit.user("u"), Kit.idle(1), Kit.idle(0), Kit.user("a"), part(1), Kit.idle(1),
            Kit.idle(3), part(2));
        run("behind those that are there").join(1, first).join(1, more).export(want.length, 0).outIs(want);
        Run x = run("others come behind").join(2, key(5), key(3)).join(3, key(9), key(3), key(1)).keys(4);
        x.key(5, 0, 0).key(3, 1, 0).key(9, 2, 0).key(1, 3, 0);
    }

    private static void nothingIsLeftOfAFault() {
        byte[] first = Kit.cat(KEY, Kit.idle(1), Kit.user("u"), Kit.idle(1), part(1), Kit.idle(1), key(8));
        byte[] more = Kit.cat(secretKey(7), Kit.idle(2), Kit.user("u"), Kit.idle(2), Kit.user("v"), Kit.idle(2), secretPart(1), Kit.idle(2),
            part(2), Kit.idle(2), secretKey(8), Kit.user("w"), key(9), Kit.user("x"));
        byte[] want = Kit.cut(first, 0, first.length - SIZE);
        for (byte[] spoilt : new byte[][] {Kit.row(0), Kit.row(255), Kit.packet(13, new byte[201]), Kit.packet(6, Kit.row(4)), Kit.packet(1, Kit.row())}) {
            run("nothing changes").join(2, first).join(-1 - more.length, more, spoilt).keys(2).keyIs(0, 1, 1, 3, 0).keyIs(1, 0, 0, 0, 0)
                .seal(Kit.STATE, 0, -1, 0, 5).seal(Kit.STATE, 0, 0, 0, 5).seal(Kit.STATE, 1, -1, 0, 5)
                .export(want.length, 0).outIs(want).export(SIZE, 1);
            run("nothing changes of an empty ring").join(-1 - more.length, more, spoilt).keys(0);
        }
        run("without the fault").join(2, first).join(3, more).keys(3).keyIs(0, 2, 2, 8, 1).keyIs(1, 1, 0, 0, 1).keyIs(2, 1, 0, 0, 0)
            .seal(115, 0, 0, 0, 5);
        run("a fault behind a join that changed something").join(2, first).join(3, more).join(-1 - SIZE, key(10), Kit.row(0)).keys(3)
            .keyIs(0, 2, 2, 8, 1).seal(115, 0, 0, 0, 5);
    }

    private static void dropped() {
        run("a key that was dropped is new again").join(2, key(1), Kit.user("u"), key(2)).drop(1, 0).join(1, key(1)).key(2, 0, 0)
            .key(1, 1, 0).keyIs(1, 0, 0, 0, 0);
        run("a fault after a drop").join(3, keys(0, 3)).drop(2, 1).join(-1 - SIZE, key(1), Kit.row(0)).keys(2).key(0, 0, 0).key(2, 1, 0);
        run("a fault brings nothing back").join(1, key(1)).drop(0, 0).join(-1, Kit.row(255)).keys(0);
    }
}
