import java.util.ArrayList;
import java.util.List;
import java.util.Random;
import java.util.function.ToLongFunction;

/**
 * All promises: random runs of calls, asked of the class and of Model.java alike. Rings, documents and signs are made
 * as the document tells them, and then often spoilt a little.
 */
public final class ModelTest {
    private static final int MOST_CALLS = 512;
    private static final int MOST_BYTES = 4096;
    private static final Kit.Pair[] PAIRS = {
        new Kit.Pair(512, 65537, 100, 1), new Kit.Pair(504, 3, 120, 3), new Kit.Pair(497, 17, 90, 5),
        new Kit.Pair(513, 0xffffffffL, 0xfffffff0L, 6)};
    private static final long[] TIMES = {
        0, 89, 90, 91, 99, 100, 101, 110, 119, 120, 121, 130, 140, 150, 200, 0xffffffefL, 0xfffffff0L, 0xffffffffL};
    private static final long[] USUAL_TIMES = {120, 121, 125, 130};
    private static final long[] NO_TIMES = {-1, 1L << 32, Long.MIN_VALUE, Long.MAX_VALUE};
    private static final long[] SPANS = {0, 1, 5, 10, 20, 30, 50, 100, 0xfffffff0L, 0xffffffffL};
    private static final String[] USERS = {"a", "bo", "", "x".repeat(200)};
    private static final String[] LABELS = {"SEALED KEYS", "SEAL", "SEALED LETTER"};
    private static final int[] TYPES = {0, 1, 0x10, 0x11, 0x12, 0x13, 0x18, 0x19, 0x1f, 0x20, 0x28, 0x30};

    private final Random random;
    private final SignetRing x = new SignetRing();
    private final Model model = new Model();
    private final int seed;
    private int calls;
    private byte[] document = {};

    private ModelTest(int seed) {
        this.seed = seed;
        random = new Random(seed);
    }

    public static void main(String[] args) {
        int first = args.length > 0 ? Integer.parseInt(args[0]) : 0;
        int runs = args.length > 1 ? Integer.parseInt(args[1]) : 2500;
        for (int seed = first; seed < first + runs; seed++) {
            new ModelTest(seed).run();
        }
        Kit.done();
    }

    // the same call of both

    private String ask(String call, ToLongFunction<SignetRing> real, ToLongFunction<Model> plain) {
        calls++;
        String want = Kit.ask(() -> plain.applyAsLong(model));
        Kit.same("run " + seed + ", call " + calls + ", " + call, Kit.ask(() -> real.applyAsLong(x)), want);
        return want;
    }

    private boolean hasRoom(int more) {
        return calls + more <= MOST_CALLS;
    }

    private boolean feed(byte[] row) {
        byte[] bytes = row.length > MOST_BYTES ? Kit.cut(row, 0, MOST_BYTES) : row;
        if (!hasRoom((bytes.length + 7) / 8 + 1)) {
            return false;
        }
        for (int i = 0; i < bytes.length; i += 8) {
            int n = Math.min(8, bytes.length - i);
            long word = random.nextLong();
            for (int j = n - 1; j >= 0; j--) {
                word = word << 8 | bytes[i + j] & 255;
            }
            long w = word;
            ask("add(" + w + ", " + n + ")", it -> it.add(w, n) ? 1 : 0, it -> it.add(w, n) ? 1 : 0);
        }
        return true;
    }

    private void join() {
        ask("join()", SignetRing::join, Model::join);
    }

    private void look() {
        long t = time();
        ask("look(" + t + ")", it -> it.look(t), it -> it.look(t));
    }

    private void run() {
        feed(ringOf(goodRing()));
        join();
        while (hasRoom(3)) {
            if (!turn(random.nextInt(20))) {
                return;
            }
        }
    }

    /** False where a run has no calls left for what it would tell. */
    private boolean turn(int which) {
        if (which < 4) {
            boolean fed = feed(inSomeForm(ringOf(seldom(3) ? goodRing() : anyRing())));
            join();
            return fed;
        }
        if (which == 4) {
            document = text();
            boolean fed = feed(document);
            ask("document()", SignetRing::document, Model::document);
            return fed;
        }
        if (which < 8) {
            boolean fed = feed(lookedAt());
            look();
            return fed;
        }
        if (which == 8) {
            makeAndTake();
            return true;
        }
        for (int i = 0; i < 4 && hasRoom(1); i++) {
            askSomething(random.nextInt(12));
        }
        return true;
    }

    /** What was made is looked at, or joined, or becomes the document. */
    private void makeAndTake() {
        if (!hasRoom(4)) {
            return;
        }
        askSomething(random.nextInt(4) == 0 ? 4 : 3);
        if (random.nextInt(3) == 0) {
            askSomething(5);
        }
        ask("take()", SignetRing::take, Model::take);
        if (random.nextInt(3) == 0) {
            join();
        } else {
            look();
        }
    }

    private void askSomething(int which) {
        int k = some(random.nextInt(Math.max(1, model.keys())));
        int part = some(seldom(2) ? -1 : random.nextInt(partsOf(k)));
        int i = some(random.nextInt(40));
        long t = time();
        switch (which) {
            case 0, 1, 2 -> ask("usable(" + k + ", " + part + ", " + t + ")", it -> it.usable(k, part, t),
                it -> it.usable(k, part, t));
            case 3 -> {
                int form = some(random.nextInt(4));
                ask("seal(" + k + ", " + part + ", " + form + ", " + t + ")", it -> it.seal(k, part, form, t),
                    it -> it.seal(k, part, form, t));
            }
            case 4 -> ask("export(" + k + ")", it -> it.export(k), it -> it.export(k));
            case 5 -> {
                int label = some(random.nextInt(3));
                ask("armor(" + label + ")", it -> it.armor(label), it -> it.armor(label));
            }
            case 6 -> {
                int what = some(random.nextInt(6));
                ask("key(" + k + ", " + what + ")", it -> it.key(k, what), it -> it.key(k, what));
            }
            case 7 -> ask("print(" + k + ", " + part + ", " + i + ")", it -> it.print(k, part, i),
                it -> it.print(k, part, i));
            case 8 -> ask("out(" + i + ")", it -> it.out(i), it -> it.out(i));
            case 9 -> ask("sum()", SignetRing::sum, Model::sum);
            case 10 -> {
                int of = some(1 + random.nextInt(2));
                ask("hash(" + of + ", " + i + ")", it -> it.hash(of, i), it -> it.hash(of, i));
            }
            default -> askSeldom(k, t);
        }
    }

    private int partsOf(int k) {
        return k >= 0 && k < model.keys() ? Math.max(1, (int) model.key(k, 3)) : 1;
    }

    private void askSeldom(int k, long t) {
        if (random.nextInt(6) == 0) {
            ask("drop(" + k + ")", it -> it.drop(k), it -> it.drop(k));
        } else if (random.nextInt(3) == 0) {
            int n = random.nextInt(12) - 1;
            ask("add(" + t + ", " + n + ")", it -> it.add(t, n) ? 1 : 0, it -> it.add(t, n) ? 1 : 0);
        } else if (random.nextInt(3) == 0) {
            ask("take()", SignetRing::take, Model::take);
        } else {
            ask("keys()", SignetRing::keys, Model::keys);
        }
    }

    // what is made by chance

    /** A number as it is, or seldom one that is out of all bounds. */
    private int some(int usual) {
        int[] odd = {-1, -2, 7, 16, 20, 32, Integer.MIN_VALUE, Integer.MAX_VALUE};
        return seldom(20) ? odd[random.nextInt(odd.length)] : usual;
    }

    private long time() {
        return seldom(40) ? NO_TIMES[random.nextInt(NO_TIMES.length)] : seldom(2) ? madeTime() : 110 + random.nextInt(60);
    }

    /** When a seal was made. */
    private long madeTime() {
        return seldom(3) ? TIMES[random.nextInt(TIMES.length)] : USUAL_TIMES[random.nextInt(USUAL_TIMES.length)];
    }

    private boolean often(int outOf) {
        return random.nextInt(outOf) != 0;
    }

    private boolean seldom(int outOf) {
        return random.nextInt(outOf) == 0;
    }

    private Kit.Pair pair() {
        return PAIRS[seldom(10) ? 3 : random.nextInt(3)];
    }

    private byte[] text() {
        String signs = "ab-- \t\r\n\n:\u00e9\u0000";
        StringBuilder text = new StringBuilder();
        for (int i = random.nextInt(40); i > 0; i--) {
            text.append(signs.charAt(random.nextInt(signs.length())));
        }
        return Kit.text(text.toString());
    }

    /** A packet with any of the heads that tell its length. */
    private byte[] packet(int kind, byte[] body) {
        int size = body.length;
        switch (random.nextInt(12)) {
            case 0:
                return Kit.cat(Kit.row(192 | kind, 255), Kit.big(size, 4), body);
            case 1:
                return kind < 16 && size < 256 ? Kit.cat(Kit.row(128 | kind << 2, size), body) : Kit.packet(kind, body);
            case 2:
                return kind < 16 ? Kit.cat(Kit.row(129 | kind << 2), Kit.big(size, 2), body) : Kit.packet(kind, body);
            case 3:
                return kind < 16 ? Kit.cat(Kit.row(130 | kind << 2), Kit.big(size, 4), body) : Kit.packet(kind, body);
            case 4:
                return seldom(10) || kind == 11 ? inParts(kind, body) : Kit.packet(kind, body);
            default:
                return Kit.packet(kind, body);
        }
    }

    private byte[] inParts(int kind, byte[] body) {
        byte[] made = Kit.row(192 | kind);
        int place = 0;
        while (place < body.length && often(4)) {
            int power = random.nextInt(5);
            if (place + (1 << power) <= body.length) {
                made = Kit.cat(made, Kit.row(224 + power), Kit.cut(body, place, place + (1 << power)));
                place += 1 << power;
            }
        }
        return Kit.cat(made, Kit.length(body.length - place), Kit.cut(body, place, body.length));
    }

    private Kit.Making making(int type, Kit.Pair by) {
        Kit.Making making = new Kit.Making(type);
        if (seldom(4)) {
            making.first();
        }
        if (often(20)) {
            making.sealed(Kit.note(2, Kit.big(madeTime(), 4)));
        }
        for (int i = random.nextInt(4); i > 0; i--) {
            byte[] note = note(by);
            making = seldom(4) ? making.other(note) : making.sealed(note);
        }
        return making;
    }

    private byte[] note(Kit.Pair by) {
        int grave = seldom(4) ? 128 : 0;
        Kit.Pair named = seldom(8) ? pair() : by;
        switch (random.nextInt(12)) {
            case 0:
                return Kit.note(grave | 2, Kit.big(madeTime(), 4));
            case 1:
            case 2:
                return Kit.note(grave | 3, Kit.big(SPANS[random.nextInt(SPANS.length)], 4));
            case 3:
            case 4:
                return Kit.note(grave | 9, Kit.big(SPANS[random.nextInt(SPANS.length)], 4));
            case 5:
                return Kit.note(grave | 16, named.name());
            case 6:
                return Kit.note(grave | 33, Kit.cat(Kit.row(4), named.print));
            case 7:
            case 8:
                return Kit.note(grave | 27, random.nextInt(5), 7);
            case 9:
                return Kit.note(grave | 29, random.nextInt(5));
            case 10:
                return seldom(8) ? Kit.note(random.nextInt(256), 1, 2, 3, 4) : Kit.note(20, 1);
            default:
                return Kit.cat(Kit.row(255, 0, 0, 0, 6, 100), new byte[5]);
        }
    }

    /** A seal about a thing, by a key that may well have made it. */
    private byte[] sealAt(Kit.Pair key, Kit.Pair part, String user) {
        int usual = part != null ? 0x18 : user != null ? 0x10 + random.nextInt(4) : 0x1f;
        int against = part != null ? 0x28 : user != null ? 0x30 : 0x20;
        int type = seldom(15) ? TYPES[random.nextInt(TYPES.length)] : seldom(8) ? against : usual;
        byte[] thing = part != null ? Kit.thing(key, part) : user != null ? Kit.thing(key, user) : Kit.thing(key);
        Kit.Making making = making(type, key);
        if (part != null && often(4)) {
            making.uses(seldom(4) ? 1 : 2);
            byte[] inner = making(seldom(12) ? 0x18 : 0x19, part).body(seldom(12) ? key : part, thing);
            byte[] note = Kit.note(32, seldom(12) ? spoilt(inner) : inner);
            making = seldom(3) ? making.other(note) : making.sealed(note);
        }
        byte[] body = making.body(seldom(10) ? pair() : key, thing);
        return packet(2, seldom(40) ? spoilt(body) : body);
    }

    /** Numbers as ringOf takes them: a key that may well be bound, with users and parts. */
    private int[] goodRing() {
        int[][] rings = {{0, 6}, {0, 1, 6}, {0, 6, 1, 6, 6}, {0, 6, 4, 6}, {0, 1, 6, 6, 4, 6, 6}, {0, 6, 6, 4, 6, 1, 6, 4, 6},
            {0, 6, 1, 6, 1, 6, 4, 6, 6}};
        return rings[random.nextInt(rings.length)];
    }

    private int[] anyRing() {
        int[] packets = new int[1 + random.nextInt(9)];
        for (int i = 0; i < packets.length; i++) {
            packets[i] = i == 0 && often(20) ? 0 : random.nextInt(14);
        }
        return packets;
    }

    private byte[] ringOf(int[] packets) {
        List<byte[]> made = new ArrayList<>();
        Kit.Pair key = pair();
        Kit.Pair part = null;
        String user = null;
        for (int which : packets) {
            if (which == 0) {
                key = pair();
                part = null;
                user = null;
                made.add(seldom(2) ? packet(5, key.secret) : packet(6, key.open));
            } else if (which < 4) {
                user = USERS[random.nextInt(USERS.length)];
                part = null;
                made.add(packet(13, Kit.text(user)));
            } else if (which < 6) {
                part = pair();
                user = null;
                made.add(seldom(2) ? packet(7, part.secret) : packet(14, part.open));
            } else if (which < 13) {
                made.add(sealAt(key, part, user));
            } else {
                made.add(packet(oddKind(), Kit.row(1, 2, 3)));
            }
        }
        return Kit.cat(made.toArray(new byte[0][]));
    }

    private int oddKind() {
        int[] kinds = {10, 12, 17, 40, 63, 10, 12, 17, 40, 63, 0, 1, 3, 4, 8, 9, 11, 15, 16, 18, 39, 13};
        return kinds[random.nextInt(kinds.length)];
    }

    private byte[] spoilt(byte[] row) {
        byte[] bytes = row;
        for (int i = 1 + random.nextInt(2); i > 0 && bytes.length > 0; i--) {
            int place = random.nextInt(bytes.length);
            byte[] before = Kit.cut(bytes, 0, place);
            byte[] behind = Kit.cut(bytes, place + 1, bytes.length);
            byte[] here = Kit.row(bytes[place]);
            switch (random.nextInt(5)) {
                case 0 -> bytes = Kit.cat(before, Kit.row(random.nextInt(256)), behind);
                case 1 -> bytes = Kit.cat(before, Kit.row(here[0] ^ 1 << random.nextInt(8)), behind);
                case 2 -> bytes = Kit.cat(before, behind);
                case 3 -> bytes = Kit.cat(before, here, Kit.row("\n =-:A".charAt(random.nextInt(6))), behind);
                default -> bytes = seldom(3) ? before : bytes;
            }
        }
        return bytes;
    }

    /** Packets as they are, or in signs; now and then spoilt. */
    private byte[] inSomeForm(byte[] packets) {
        byte[] right = seldom(8) ? spoilt(packets) : packets;
        byte[] form = seldom(4) ? signsOf(right, LABELS[random.nextInt(3)]) : right;
        return seldom(10) ? spoilt(form) : form;
    }

    /** Signs whose lines are otherwise than those that the class makes. */
    private byte[] signsOf(byte[] packets, String label) {
        String made = new String(Kit.signs(label, packets), java.nio.charset.StandardCharsets.ISO_8859_1);
        String[] lines = made.split("\n");
        StringBuilder text = new StringBuilder();
        for (int i = 0; i < lines.length; i++) {
            String line = lines[i];
            if (i == 1 && seldom(3)) {
                text.append("Note: any\n");
            }
            if (i > 1 && i < lines.length - 2 && line.length() > 8 && seldom(6)) {
                int cut = seldom(4) ? 1 + random.nextInt(line.length() - 1) : 4 * (1 + random.nextInt(line.length() / 4 - 1));
                line = line.substring(0, cut) + "\n" + line.substring(cut);
            }
            text.append(line).append(seldom(8) ? " \t\r".substring(random.nextInt(3)) : "");
            text.append(seldom(60) ? "\n\n" : "\n");
        }
        if (seldom(6)) {
            text.setLength(text.length() - 1);
        }
        return Kit.text(text.append(seldom(10) ? "\n \n" : "").toString());
    }

    /** A seal apart, a letter, or clear text. */
    private byte[] lookedAt() {
        Kit.Pair by = pair();
        int form = random.nextInt(4);
        byte[] about = seldom(2) ? document : text();
        int type = seldom(3) ? 1 : 0;
        Kit.Making making = making(seldom(20) ? TYPES[random.nextInt(TYPES.length)] : form == 3 && often(8) ? 1 : type, by);
        if (often(6)) {
            making = seldom(2) ? making.named(by) : making.printed(by);
        }
        Kit.Pair maker = seldom(12) ? pair() : by;
        if (form < 2) {
            byte[] seal = packet(2, making.body(maker, making.head()[1] == 1 ? Kit.lines(document) : document));
            return inSomeForm(seal);
        }
        if (form == 2) {
            byte[] head = making.head();
            byte[] front = Kit.cat(Kit.row(3, seldom(12) ? random.nextInt(3) : head[1], seldom(12) ? 2 : head[3], 1),
                new byte[8], Kit.row(1));
            byte[] name = new byte[random.nextInt(3)];
            byte[] letter = Kit.cat(Kit.row("btux".charAt(random.nextInt(seldom(8) ? 4 : 3)), name.length), name,
                new byte[4], about);
            byte[] seal = packet(2, making.body(maker, head[1] == 1 ? Kit.lines(about) : about));
            byte[] all = Kit.cat(packet(4, front), packet(11, letter), seal);
            return inSomeForm(seldom(15) ? Kit.cat(all, packet(oddKind(), Kit.row(1))) : all);
        }
        byte[] stripped = Kit.strip(about);
        byte[] signs = signsOf(packet(2, making.body(maker, Kit.lines(stripped))), seldom(30) ? "SEALED KEYS" : "SEAL");
        byte[] clear = Kit.cat(clearText(about), signs);
        return seldom(5) ? spoilt(clear) : clear;
    }

    private byte[] clearText(byte[] about) {
        StringBuilder made = new StringBuilder("-----BEGIN SEALED TEXT-----\n");
        made.append(seldom(2) ? "Hash: SHA256\n" : "").append(seldom(6) ? " \r\n" : "\n");
        for (String line : new String(about, java.nio.charset.StandardCharsets.ISO_8859_1).split("\n", -1)) {
            made.append(line.startsWith("-") && often(20) || seldom(10) ? "- " : "").append(line);
            made.append(seldom(10) ? "\t \r\n" : "\n");
        }
        return Kit.text(made.toString());
    }
}
