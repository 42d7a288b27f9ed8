import java.math.BigInteger;
import java.nio.charset.StandardCharsets;
import java.util.ArrayList;
import java.util.Arrays;
import java.util.List;
import java.util.TreeMap;

/**
 * The document once more, sentence by sentence, in the plainest form that the Java library allows: a ring is copied
 * before it is joined, every seal is judged anew at each call. ModelTest asks it and the class the same.
 */
final class Model {
    private static final int MOST_BYTES = 4096;
    private static final List<String> LABELS = List.of("SEALED KEYS", "SEAL", "SEALED LETTER");
    private static final String SIGNS = "ABCDEFGHIJKLMNOPQRSTUVWXYZabcdefghijklmnopqrstuvwxyz0123456789+/";
    private static final List<Integer> KINDS_OF_NOTES = List.of(2, 3, 9, 16, 33, 27, 29, 32);

    /** What is wrong, before it is known at which place. */
    private static final class Wrong extends RuntimeException {
    }

    /** A FAULT, which is the call's answer. */
    private static final class Fault extends RuntimeException {
        private final int answer;

        Fault(int answer) {
            this.answer = answer;
        }
    }

    private static void must(boolean holds) {
        if (!holds) {
            throw new Wrong();
        }
    }

    /** Bytes that are read one behind the other; to read more than there are is wrong. */
    private static final class Reader {
        private final byte[] row;
        private int place;

        Reader(byte[] row) {
            this.row = row;
        }

        boolean more() {
            return place < row.length;
        }

        int next() {
            must(more());
            return row[place++] & 255;
        }

        long next(int width) {
            long value = 0;
            for (int i = 0; i < width; i++) {
                value = value * 256 + next();
            }
            return value;
        }

        byte[] bytes(long count) {
            must(count <= row.length - place);
            place += (int) count;
            return Arrays.copyOfRange(row, place - (int) count, place);
        }

        BigInteger number() {
            int bits = (int) next(2);
            BigInteger value = new BigInteger(1, bytes((bits + 7) / 8));
            must(value.bitLength() == bits);
            return value;
        }

        /** A length behind its first byte, which is none of a part. */
        long length(int first) {
            must(first < 224 || first == 255);
            return first < 192 ? first : first < 224 ? (first - 192) * 256 + next() + 192 : next(4);
        }
    }

    // packets

    private static final class Packets {
        private final Reader in;
        private int place;
        private int kind;
        private byte[] body;

        Packets(byte[] row) {
            in = new Reader(row);
        }

        void read() {
            place = in.place;
            int head = in.next();
            must(head >= 128);
            if (head < 192) {
                kind = head / 4 % 16;
                must(head % 4 < 3);
                body = in.bytes(in.next(1 << head % 4));
                return;
            }
            kind = head - 192;
            body = new byte[0];
            int first = in.next();
            while (kind == 11 && first >= 224 && first < 255) {
                body = Kit.cat(body, in.bytes(1L << first - 224));
                first = in.next();
            }
            body = Kit.cat(body, in.bytes(in.length(first)));
        }

        Fault fault() {
            return new Fault(-1 - place);
        }

        Fault missing() {
            return new Fault(-1 - in.row.length);
        }
    }

    // seals

    private static final class Seal {
        private final byte[] body;
        private final int type;
        private final int hash;
        private final byte[] head;
        private final TreeMap<Integer, byte[]> notes = new TreeMap<>();
        private final int check;
        private final BigInteger s;
        private boolean vain;

        /** Reads a seal that is not passed. */
        Seal(byte[] body) {
            this.body = body;
            Reader in = new Reader(body);
            in.next();
            type = in.next();
            in.next();
            hash = in.next();
            byte[] sealed = in.bytes(in.next(2));
            head = Arrays.copyOf(body, in.place);
            byte[] others = in.bytes(in.next(2));
            check = (int) in.next(2);
            s = in.number();
            must(!in.more());
            readNotes(others, false);
            readNotes(sealed, true);
            vain |= !notes.containsKey(2);
        }

        private void readNotes(byte[] row, boolean sealed) {
            Reader in = new Reader(row);
            while (in.more()) {
                long length = in.length(in.next());
                must(length >= 1);
                byte[] note = in.bytes(length);
                readNote(note[0] & 127, note[0] < 0, Kit.cut(note, 1, note.length), sealed);
            }
        }

        private void readNote(int kind, boolean grave, byte[] says, boolean sealed) {
            switch (kind) {
                case 2, 3, 9 -> must(says.length == 4);
                case 16 -> must(says.length == 8);
                case 33 -> must(says.length == 21 && says[0] == 4);
                case 27, 29 -> must(says.length > 0);
                default -> { }
            }
            if (sealed || kind == 16 || kind == 32 || kind == 33) {
                notes.put(kind, says);
            }
            vain |= sealed && grave && !KINDS_OF_NOTES.contains(kind);
        }

        long time(int kind) {
            return notes.containsKey(kind) ? new Reader(notes.get(kind)).next(4) : 0;
        }

        /** The first byte that a note says, or -1 without one. */
        int first(int kind) {
            return notes.containsKey(kind) ? notes.get(kind)[0] & 255 : -1;
        }

        boolean hasEnded(long t) {
            return time(3) != 0 && time(2) + time(3) <= t;
        }

        boolean isTrue(byte[] thing, Key by) {
            byte[] digest = Kit.hash(hash, Kit.cat(thing, head, Kit.row(4, 255), Kit.big(head.length, 4)));
            return s.compareTo(by.n) < 0 && s.modPow(by.e, by.n).equals(frame(hash, digest, by.n))
                && check == (digest[0] & 255) * 256 + (digest[1] & 255);
        }

        boolean counts(byte[] thing, Key by, long t) {
            return isTrue(thing, by) && !vain && time(2) <= t && time(2) >= by.made && !hasEnded(t);
        }
    }

    private static BigInteger frame(int hash, byte[] digest, BigInteger n) {
        byte[] end = Kit.cat(Kit.row(0), Kit.row(hash == 2 ? Kit.FRONT_FIRST : Kit.FRONT_SECOND), digest);
        byte[] frame = new byte[(n.bitLength() + 7) / 8];
        Arrays.fill(frame, (byte) 255);
        frame[0] = 0;
        frame[1] = 1;
        System.arraycopy(end, 0, frame, frame.length - end.length, end.length);
        return new BigInteger(1, frame);
    }

    /** Whether a kind 2 is passed; one that is too short for that is wrong. */
    private static boolean isPassed(byte[] body) {
        must(body.length > 0);
        if (body[0] != 4) {
            return true;
        }
        must(body.length >= 4);
        return body[2] != 1 || body[3] != 2 && body[3] != 8;
    }

    // keys

    /** A user, or a key or part. */
    private static class Place {
        byte[] open;
        List<Seal> seals = new ArrayList<>();

        byte[] sealed() {
            return Kit.cat(Kit.row(0xb4), Kit.big(open.length, 4), open);
        }
    }

    private static final class Key extends Place {
        long made;
        BigInteger n;
        BigInteger e;
        BigInteger d;
        List<Place> users = new ArrayList<>();
        List<Key> parts = new ArrayList<>();

        static Key read(byte[] body, boolean withSecret) {
            Key key = new Key();
            Reader in = new Reader(body);
            must(in.next() == 4);
            key.made = in.next(4);
            must(in.next() == 1);
            key.n = in.number();
            key.e = in.number();
            must(key.n.bitLength() >= 497 && key.n.bitLength() <= 1024 && key.n.testBit(0));
            must(key.e.bitLength() >= 2 && key.e.bitLength() <= 32 && key.e.testBit(0));
            key.open = Arrays.copyOf(body, in.place);
            if (withSecret) {
                must(in.next() == 0);
                int start = in.place;
                key.d = in.number();
                must(key.d.bitLength() <= key.n.bitLength());
                in.number();
                in.number();
                in.number();
                long sum = 0;
                for (int i = start; i < in.place; i++) {
                    sum += body[i] & 255;
                }
                must(in.next(2) == sum % 65536);
            }
            must(!in.more());
            return key;
        }

        Key copy() {
            Key copy = new Key();
            copy.open = open;
            copy.made = made;
            copy.n = n;
            copy.e = e;
            copy.d = d;
            copy.seals.addAll(seals);
            for (Place user : users) {
                Place other = new Place();
                other.open = user.open;
                other.seals.addAll(user.seals);
                copy.users.add(other);
            }
            for (Key part : parts) {
                copy.parts.add(part.copy());
            }
            return copy;
        }

        @Override
        byte[] sealed() {
            return Kit.cat(Kit.row(0x99), Kit.big(open.length, 2), open);
        }

        byte[] print() {
            return Kit.hash(2, sealed());
        }

        byte[] name() {
            return Kit.cut(print(), 12, 20);
        }

        List<Place> places() {
            List<Place> places = new ArrayList<>(List.of(this));
            places.addAll(users);
            places.addAll(parts);
            return places;
        }
    }

    // what is read as keys

    private static final class Reading {
        private final List<Key> ring = new ArrayList<>();
        private Key key;
        private Place place;
        private int count;

        void join(int kind, byte[] body) {
            if (kind == 5 || kind == 6) {
                key = one(ring, 16, Key.read(body, kind == 5));
                place = key;
                count++;
            } else if (kind == 7 || kind == 14) {
                must(key != null);
                place = one(key.parts, 8, Key.read(body, kind == 7));
            } else if (kind == 13) {
                must(key != null);
                place = user(body);
            } else if (kind == 2) {
                must(key != null);
                joinSeal(body);
            } else {
                must(kind == 10 || kind == 12 || kind == 17 || kind >= 40);
            }
        }

        private Key one(List<Key> among, int most, Key read) {
            for (Key there : among) {
                if (Arrays.equals(there.print(), read.print())) {
                    there.d = there.d == null ? read.d : there.d;
                    return there;
                }
            }
            must(among.size() < most);
            among.add(read);
            return read;
        }

        private Place user(byte[] body) {
            for (Place there : key.users) {
                if (Arrays.equals(there.open, body)) {
                    return there;
                }
            }
            must(key.users.size() < 8 && body.length <= 200);
            Place user = new Place();
            user.open = body;
            key.users.add(user);
            return user;
        }

        private void joinSeal(byte[] body) {
            if (isPassed(body)) {
                return;
            }
            Seal seal = new Seal(body);
            for (Seal there : place.seals) {
                if (Arrays.equals(there.body, body)) {
                    return;
                }
            }
            must(place.seals.size() < 16);
            place.seals.add(seal);
        }
    }

    // lines and signs

    private static final class Lines {
        private final String all;
        private int place;
        private int next;
        /** The line without blanks at its end, and with them. */
        private String line;
        private String whole;

        Lines(byte[] row) {
            all = new String(row, StandardCharsets.ISO_8859_1);
        }

        boolean more() {
            return next < all.length();
        }

        /** Goes to the next line, or to the end, which then is what is wrong. */
        void read() {
            place = next;
            must(more());
            int end = all.indexOf('\n', place);
            whole = all.substring(place, end < 0 ? all.length() : end);
            line = whole.replaceAll("[\t\r ]+\\z", "");
            next = end < 0 ? all.length() : end + 1;
        }

        void readHead() {
            read();
            while (!line.isEmpty()) {
                must(line.contains(": "));
                read();
            }
        }

        /** What the signs behind the line that begins a label stand for. */
        byte[] readSigns(String label) {
            readHead();
            byte[] plain = {};
            boolean padded = false;
            read();
            while (!line.startsWith("=")) {
                must(!padded && line.matches("([A-Za-z0-9+/]{4})*([A-Za-z0-9+/]{4}|[A-Za-z0-9+/]{3}=|[A-Za-z0-9+/]{2}==)"));
                plain = Kit.cat(plain, fromSigns(line));
                padded = line.endsWith("=");
                read();
            }
            must(line.equals("=" + inSigns(Kit.big(Kit.sum(plain), 3))));
            read();
            must(line.equals("-----END " + label + "-----"));
            while (more()) {
                read();
                must(line.isEmpty());
            }
            return plain;
        }
    }

    private static byte[] fromSigns(String line) {
        StringBuilder bits = new StringBuilder();
        for (char sign : line.replace("=", "").toCharArray()) {
            bits.append(Integer.toBinaryString(64 + SIGNS.indexOf(sign)).substring(1));
        }
        byte[] row = new byte[bits.length() / 8];
        for (int i = 0; i < row.length; i++) {
            row[i] = (byte) Integer.parseInt(bits.substring(8 * i, 8 * i + 8), 2);
        }
        must(!bits.substring(8 * row.length).contains("1"));
        return row;
    }

    private static String inSigns(byte[] row) {
        StringBuilder bits = new StringBuilder();
        for (byte b : row) {
            bits.append(Integer.toBinaryString(256 + (b & 255)).substring(1));
        }
        while (bits.length() % 6 != 0) {
            bits.append('0');
        }
        StringBuilder signs = new StringBuilder();
        for (int i = 0; i < bits.length(); i += 6) {
            signs.append(SIGNS.charAt(Integer.parseInt(bits.substring(i, i + 6), 2)));
        }
        return signs + "=".repeat((3 - row.length % 3) % 3);
    }

    private static byte[] armored(byte[] row, String label) {
        StringBuilder text = new StringBuilder("-----BEGIN " + label + "-----\n\n");
        for (int i = 0; i < row.length; i += 48) {
            text.append(inSigns(Kit.cut(row, i, Math.min(i + 48, row.length)))).append('\n');
        }
        text.append('=').append(inSigns(Kit.big(Kit.sum(row), 3)));
        return Kit.text(text.append("\n-----END " + label + "-----\n").toString());
    }

    /** The bytes as packets, whatever they are in. */
    private static byte[] plain(byte[] row) {
        if (row.length == 0 || row[0] < 0) {
            return row;
        }
        Lines lines = new Lines(row);
        try {
            lines.read();
            for (String label : LABELS) {
                if (lines.line.equals("-----BEGIN " + label + "-----")) {
                    return lines.readSigns(label);
                }
            }
            throw new Wrong();
        } catch (Wrong e) {
            throw new Fault(-100000 - lines.place);
        }
    }

    // what keys are

    private static byte[] thing(Key key, Place place) {
        return place == key ? key.sealed() : Kit.cat(key.sealed(), place.sealed());
    }

    private static List<Seal> counting(Key key, Place place, int low, int high, long t) {
        List<Seal> counting = new ArrayList<>();
        for (Seal seal : place.seals) {
            if (seal.type >= low && seal.type <= high && seal.counts(thing(key, place), key, t)) {
                counting.add(seal);
            }
        }
        return counting;
    }

    /** The one made last, of alike ones the later one; or null. */
    private static Seal last(List<Seal> seals) {
        Seal last = null;
        for (Seal seal : seals) {
            last = last == null || seal.time(2) >= last.time(2) ? seal : last;
        }
        return last;
    }

    private static Seal bond(Key key, long t) {
        List<Seal> bonds = new ArrayList<>();
        Seal own = last(counting(key, key, 0x1f, 0x1f, t));
        if (own != null) {
            bonds.add(own);
        }
        for (Place user : key.users) {
            Seal seal = last(counting(key, user, 0x10, 0x13, t));
            Seal against = last(counting(key, user, 0x30, 0x30, t));
            if (seal != null && (against == null || against.time(2) < seal.time(2))) {
                bonds.add(seal);
            }
        }
        Seal bond = null;
        for (Seal seal : bonds) {
            bond = bond == null || seal.time(2) > bond.time(2) ? seal : bond;
        }
        return bond;
    }

    private static boolean isRevoked(Key key, Place place, int type, long t) {
        for (Seal seal : place.seals) {
            byte[] thing = thing(key, place);
            boolean softly = seal.first(29) == 1 || seal.first(29) == 3;
            if (seal.type == type && seal.isTrue(thing, key) && !seal.vain && (seal.counts(thing, key, t) || !softly)) {
                return true;
            }
        }
        return false;
    }

    private static boolean hasEnded(Key key, Seal bond, long t) {
        return bond.time(9) != 0 && key.made + bond.time(9) <= t;
    }

    private static int state(Key key, long t) {
        if (t < key.made) {
            return 1;
        }
        if (isRevoked(key, key, 0x20, t)) {
            return 3;
        }
        Seal bond = bond(key, t);
        if (bond == null) {
            return 4;
        }
        if (hasEnded(key, bond, t)) {
            return 2;
        }
        return bond.notes.containsKey(27) && (bond.first(27) & 2) == 0 ? 5 : 0;
    }

    private static int state(Key key, Key part, long t) {
        int state = state(key, t);
        if (part == key || state >= 1 && state <= 4) {
            return state;
        }
        if (t < part.made) {
            return 1;
        }
        if (isRevoked(key, part, 0x28, t)) {
            return 3;
        }
        Seal bond = last(counting(key, part, 0x18, 0x18, t));
        if (bond == null) {
            return 4;
        }
        if (hasEnded(part, bond, t)) {
            return 2;
        }
        if (!bond.notes.containsKey(27) || (bond.first(27) & 2) == 0) {
            return 5;
        }
        return isBacked(bond, key, part, t) ? 0 : 6;
    }

    private static boolean isBacked(Seal bond, Key key, Key part, long t) {
        byte[] body = bond.notes.get(32);
        try {
            must(body != null && !isPassed(body));
            Seal inner = new Seal(body);
            return inner.type == 0x19 && !inner.vain && inner.time(2) <= t && inner.isTrue(thing(key, part), part);
        } catch (Wrong e) {
            return false;
        }
    }

    // what is looked at

    private static final class Looking {
        private Seal seal;
        private byte[] document;

        private void readSeal(Packets in) {
            in.read();
            must(in.kind == 2 && !isPassed(in.body));
            seal = new Seal(in.body);
            must(seal.type <= 1);
        }

        private void readPackets(Packets in) {
            in.read();
            if (in.kind != 4) {
                in.in.place = 0;
                readSeal(in);
                return;
            }
            byte[] front = in.body;
            must(front.length == 13 && front[0] == 3 && front[3] == 1 && front[12] == 1);
            in.read();
            must(in.kind == 11);
            readLetter(new Reader(in.body));
            readSeal(in);
            must(seal.type == front[1] && seal.hash == front[2]);
        }

        private void readLetter(Reader in) {
            int form = in.next();
            must(form == 'b' || form == 't' || form == 'u');
            in.bytes(in.next());
            in.bytes(4);
            document = in.bytes(in.row.length - in.place);
        }

        void read(byte[] plain, boolean clear) {
            Packets in = new Packets(plain);
            try {
                if (clear) {
                    readSeal(in);
                    must(seal.type == 1);
                } else {
                    readPackets(in);
                }
                in.place = in.in.place;
                must(!in.in.more());
            } catch (Wrong e) {
                throw in.fault();
            }
        }

        void readClear(Lines lines) {
            byte[] plain;
            try {
                lines.readHead();
                List<String> text = new ArrayList<>();
                lines.read();
                while (!lines.line.equals("-----BEGIN SEAL-----")) {
                    boolean dash = lines.whole.startsWith("-");
                    must(!dash || lines.whole.startsWith("- "));
                    text.add((dash ? lines.whole.substring(2) : lines.whole).replaceAll("[\t\r ]+\\z", ""));
                    lines.read();
                }
                document = Kit.text(String.join("\n", text));
                plain = lines.readSigns("SEAL");
            } catch (Wrong e) {
                throw new Fault(-100000 - lines.place);
            }
            read(plain, true);
        }
    }

    private Looking looking() {
        Looking looking = new Looking();
        looking.document = document;
        if (bytes.length > 0 && bytes[0] >= 0) {
            Lines lines = new Lines(bytes);
            lines.read();
            if (lines.line.equals("-----BEGIN SEALED TEXT-----")) {
                looking.readClear(lines);
                return looking;
            }
        }
        looking.read(plain(bytes), false);
        return looking;
    }

    private int comesTo(Looking looking, long t) {
        Seal seal = looking.seal;
        byte[] print = seal.notes.get(33);
        byte[] name = seal.notes.get(16);
        if (seal.vain || print == null && name == null) {
            return 1;
        }
        for (Key key : ring) {
            List<Key> all = new ArrayList<>(List.of(key));
            all.addAll(key.parts);
            for (Key by : all) {
                if (print != null ? Arrays.equals(Kit.cut(print, 1, 21), by.print()) : Arrays.equals(name, by.name())) {
                    return comesTo(looking, key, by, t);
                }
            }
        }
        return 2;
    }

    private static int comesTo(Looking looking, Key key, Key by, long t) {
        Seal seal = looking.seal;
        if (!seal.isTrue(seal.type == 1 ? Kit.lines(looking.document) : looking.document, by)) {
            return 3;
        }
        if (seal.time(2) > t || seal.hasEnded(t)) {
            return 4;
        }
        int state = state(key, by, t);
        return state == 0 ? 0 : 10 + state;
    }

    // the face

    private byte[] bytes = {};
    private byte[] document = {};
    private byte[] out = {};
    private List<Key> ring = new ArrayList<>();

    private static void asks(boolean holds, RuntimeException otherwise) {
        if (!holds) {
            throw otherwise;
        }
    }

    private static void asksTime(long t) {
        asks(t >= 0 && t < 1L << 32, new IllegalArgumentException());
    }

    private Key find(int k, int part) {
        asks(k >= 0 && k < ring.size(), new IndexOutOfBoundsException());
        Key key = ring.get(k);
        asks(part >= -1 && part < key.parts.size(), new IndexOutOfBoundsException());
        return part == -1 ? key : key.parts.get(part);
    }

    private byte[] taken() {
        byte[] taken = bytes;
        bytes = new byte[0];
        return taken;
    }

    boolean add(long w, int n) {
        if (n < 1 || n > 8 || bytes.length + n > MOST_BYTES) {
            return false;
        }
        for (int i = 0; i < n; i++) {
            bytes = Kit.cat(bytes, Kit.row((int) (w >> 8 * i)));
        }
        return true;
    }

    int join() {
        try {
            Packets packets = new Packets(plain(bytes));
            Reading reading = new Reading();
            for (Key key : ring) {
                reading.ring.add(key.copy());
            }
            while (packets.in.more()) {
                try {
                    packets.read();
                    reading.join(packets.kind, packets.body);
                } catch (Wrong e) {
                    throw packets.fault();
                }
            }
            if (reading.count == 0) {
                throw packets.missing();
            }
            ring = reading.ring;
            return reading.count;
        } catch (Fault fault) {
            return fault.answer;
        } finally {
            taken();
        }
    }

    int document() {
        document = taken();
        return document.length;
    }

    int look(long t) {
        asksTime(t);
        try {
            return comesTo(looking(), t);
        } catch (Fault fault) {
            return fault.answer;
        } finally {
            taken();
        }
    }

    int keys() {
        return ring.size();
    }

    long key(int k, int what) {
        Key key = find(k, -1);
        int seals = 0;
        for (Place place : key.places()) {
            seals += place.seals.size();
        }
        asks(what >= 0 && what <= 5, new IndexOutOfBoundsException());
        return new long[] {key.made, key.n.bitLength(), key.users.size(), key.parts.size(), seals,
            key.d != null ? 1 : 0}[what];
    }

    int print(int k, int part, int i) {
        Key key = find(k, part);
        asks(i >= 0 && i < 20, new IndexOutOfBoundsException());
        return key.print()[i] & 255;
    }

    int usable(int k, int part, long t) {
        Key asked = find(k, part);
        asksTime(t);
        return state(ring.get(k), asked, t);
    }

    int seal(int k, int part, int form, long t) {
        Key by = find(k, part);
        asksTime(t);
        asks(form >= 0 && form <= 3, new IllegalArgumentException());
        asks(by.d != null, new IllegalStateException());
        if (form == 0) {
            out = sealed(by, 0, document, t);
        } else if (form == 1) {
            out = sealed(by, 1, Kit.lines(document), t);
        } else if (form == 2) {
            out = Kit.cat(Kit.packet(4, Kit.cat(Kit.row(3, 0, 8, 1), by.name(), Kit.row(1))),
                Kit.packet(11, Kit.cat(Kit.row('b', 0, 0, 0, 0, 0), document)), sealed(by, 0, document, t));
        } else {
            out = clear(by, t);
        }
        return out.length;
    }

    private byte[] clear(Key by, long t) {
        StringBuilder made = new StringBuilder("-----BEGIN SEALED TEXT-----\nHash: SHA256\n\n");
        List<String> lines = new ArrayList<>();
        for (String line : new String(document, StandardCharsets.ISO_8859_1).split("\n", -1)) {
            String stripped = line.replaceAll("[\t\r ]+\\z", "");
            lines.add(stripped);
            made.append(stripped.startsWith("-") ? "- " : "").append(stripped).append("\n");
        }
        byte[] text = Kit.text(String.join("\r\n", lines));
        return Kit.cat(Kit.text(made.toString()), armored(sealed(by, 1, text, t), "SEAL"));
    }

    private static byte[] sealed(Key by, int type, byte[] thing, long t) {
        byte[] notes = Kit.cat(Kit.row(5, 2), Kit.big(t, 4), Kit.row(22, 33, 4), by.print());
        byte[] head = Kit.cat(Kit.row(4, type, 1, 8), Kit.big(notes.length, 2), notes);
        byte[] digest = Kit.hash(8, Kit.cat(thing, head, Kit.row(4, 255), Kit.big(head.length, 4)));
        BigInteger s = frame(8, digest, by.n).modPow(by.d, by.n);
        return Kit.packet(2, Kit.cat(head, Kit.row(0, 10, 9, 16), by.name(), Kit.cut(digest, 0, 2), Kit.number(s)));
    }

    int export(int k) {
        Key key = find(k, -1);
        out = new byte[0];
        for (Place place : key.places()) {
            out = Kit.cat(out, Kit.packet(place == key ? 6 : place instanceof Key ? 14 : 13, place.open));
            for (Seal seal : place.seals) {
                out = Kit.cat(out, Kit.packet(2, seal.body));
            }
        }
        return out.length;
    }

    int armor(int label) {
        asks(label >= 0 && label <= 2, new IllegalArgumentException());
        asks(out.length <= 8000, new UnsupportedOperationException());
        out = armored(out, LABELS.get(label));
        return out.length;
    }

    int out(int i) {
        asks(i >= 0 && i < out.length, new ArrayIndexOutOfBoundsException());
        return out[i] & 255;
    }

    int sum() {
        return Kit.sum(out);
    }

    int take() {
        bytes = Arrays.copyOf(out, Math.min(out.length, MOST_BYTES));
        return bytes.length;
    }

    int drop(int k) {
        find(k, -1);
        ring.remove(k);
        return ring.size();
    }

    int hash(int which, int i) {
        asks(which == 1 || which == 2, new IllegalArgumentException());
        asks(i >= 0 && i < (which == 1 ? 20 : 32), new IndexOutOfBoundsException());
        return Kit.hash(which == 1 ? 2 : 8, document)[i] & 255;
    }
}
