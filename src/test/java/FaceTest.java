import java.lang.reflect.Modifier;
import java.util.Random;
import java.util.TreeSet;

/** The face of the class; and that no call, on whatever bytes, throws what the document does not name. */
public final class FaceTest {
    private static final Kit.Pair ADA = new Kit.Pair(512, 65537, 100, 1);
    private static final Kit.Pair SUB = new Kit.Pair(504, 3, 110, 3);
    private static final int MOST_CALLS = 512;
    /** How many calls the object may still have. */
    private static int left;

    public static void main(String[] args) {
        face();
        for (int seed = 0; seed < 3000; seed++) {
            randomCalls(new Random(seed));
        }
        Kit.done();
    }

    private static void face() {
        TreeSet<String> names = new TreeSet<>();
        for (java.lang.reflect.Method method : SignetRing.class.getDeclaredMethods()) {
            if (!Modifier.isPrivate(method.getModifiers())) {
                names.add(method.toGenericString().replace("SignetRing.", "").replace("java.lang.", ""));
            }
        }
        TreeSet<String> want = new TreeSet<>(java.util.List.of(
            "public boolean add(long,int)",
            "public int join()",
            "public int document()",
            "public int look(long) throws IllegalArgumentException",
            "public int keys()",
            "public long key(int,int) throws IndexOutOfBoundsException",
            "public int print(int,int,int) throws IndexOutOfBoundsException",
            "public int usable(int,int,long) throws IndexOutOfBoundsException,IllegalArgumentException",
            "public int seal(int,int,int,long) throws IndexOutOfBoundsException,IllegalArgumentException,IllegalStateException",
            "public int export(int) throws IndexOutOfBoundsException",
            "public int armor(int) throws IllegalArgumentException,UnsupportedOperationException",
            "public int out(int) throws ArrayIndexOutOfBoundsException",
            "public int sum()",
            "public int take()",
            "public int drop(int) throws IndexOutOfBoundsException",
            "public int hash(int,int) throws IllegalArgumentException,IndexOutOfBoundsException"));
        Kit.same("the methods", names.toString(), want.toString());
        Kit.due("the constructors", () -> SignetRing.class.getDeclaredConstructors().length, 1);
        Kit.due("the class is final", () -> Modifier.isFinal(SignetRing.class.getModifiers()) ? 1 : 0, 1);
        for (java.lang.reflect.Field field : SignetRing.class.getDeclaredFields()) {
            Kit.due("a private field", () -> Modifier.isPrivate(field.getModifiers()) ? 1 : 0, 1);
        }
    }

    private static byte[] seed(Random random) {
        byte[] thing = Kit.thing(ADA, SUB);
        byte[] back = Kit.note(32, Kit.seal(0x19, 120).body(SUB, thing));
        byte[] ring = Kit.cat(ADA.secretKey(), Kit.seal(0x1f, 100).by(ADA, Kit.thing(ADA)), Kit.user("a"),
            Kit.seal(0x13, 110).uses(3).by(ADA, Kit.thing(ADA, "a")), SUB.secretPart(),
            Kit.seal(0x18, 120).uses(2).sealed(back).by(ADA, thing));
        return random.nextInt(3) == 0 ? Kit.signs("SEALED KEYS", ring) : ring;
    }

    private static byte[] spoil(byte[] bytes, Random random) {
        byte[] spoilt = bytes.clone();
        for (int i = random.nextInt(4); i > 0 && spoilt.length > 0; i--) {
            spoilt[random.nextInt(spoilt.length)] = (byte) random.nextInt(256);
        }
        int cut = random.nextInt(4) == 0 ? random.nextInt(spoilt.length + 1) : spoilt.length;
        return Kit.cut(spoilt, 0, cut);
    }

    /** A number that is often at an edge. */
    private static int any(Random random) {
        int[] edges = {0, 0, 0, 1, 2, 3, -1, -1, -2, 4, 5, 8, 16, 19, 20, 31, Integer.MIN_VALUE, Integer.MAX_VALUE};
        return edges[random.nextInt(edges.length)];
    }

    private static long anyTime(Random random) {
        long[] edges = {0, 99, 100, 110, 119, 120, 130, 0xffffffffL, 1L << 32, -1, Long.MIN_VALUE, Long.MAX_VALUE};
        return edges[random.nextInt(edges.length)];
    }

    private static void randomCalls(Random random) {
        SignetRing x = new SignetRing();
        left = MOST_CALLS;
        for (int i = 0; i < 60 && left > 4; i++) {
            left--;
            int which = random.nextInt(18);
            int a = any(random);
            int b = any(random);
            int c = any(random);
            long t = anyTime(random);
            String got = Kit.ask(() -> call(x, which, a, b, c, t, random));
            String allowed = which < 7 ? ""
                : which == 7 ? Kit.ARGUMENT
                : which == 8 ? Kit.ARRAY
                : which == 9 || which == 10 || which == 11 || which == 12 ? Kit.INDEX
                : which == 13 || which == 14 ? Kit.INDEX + Kit.ARGUMENT
                : which == 15 ? Kit.INDEX + Kit.ARGUMENT + Kit.STATE
                : Kit.ARGUMENT + Kit.UNSUPPORTED;
            boolean right = !got.startsWith("throws") || !got.contains(" ") && allowed.contains(got);
            Kit.same("call " + which + " (" + got + ")", right ? "right" : got, "right");
        }
    }

    private static long call(SignetRing x, int which, int a, int b, int c, long t, Random random) {
        switch (which) {
            case 0:
                return fed(x, spoil(seed(random), random)).join();
            case 1:
                return x.add(t, a) ? 1 : 0;
            case 2:
                return x.join();
            case 3:
                return x.document();
            case 4:
                return x.keys();
            case 5:
                return x.sum();
            case 6:
                return x.take();
            case 7:
                return spoiltLook(x, t, random);
            case 8:
                return x.out(a);
            case 9:
                return x.key(a, b);
            case 10:
                return x.print(a, b, c);
            case 11:
                return x.export(a);
            case 12:
                return random.nextInt(4) == 0 ? x.drop(a) : 0;
            case 13:
                return x.usable(a, b, t);
            case 14:
                return x.hash(a, b);
            case 15:
                return x.seal(a, b, c, t);
            case 16:
                return x.armor(a);
            default:
                return x.look(t);
        }
    }

    /** Tells bytes, as far as the calls go. */
    private static SignetRing fed(SignetRing x, byte[] bytes) {
        byte[] first = Kit.cut(bytes, 0, Math.min(bytes.length, 8 * (left - 1)));
        left -= (first.length + 7) / 8;
        return Kit.feed(x, first);
    }

    /** Looks at what was made last, spoilt a little. */
    private static long spoiltLook(SignetRing x, long t, Random random) {
        int size = x.take();
        left -= 2;
        if (size > 0 && size + size / 8 + 4 < left && random.nextBoolean()) {
            byte[] bytes = new byte[size];
            for (int i = 0; i < size; i++) {
                bytes[i] = (byte) x.out(i);
            }
            x.document();
            left -= size;
            fed(x, spoil(bytes, random));
        }
        return x.look(t);
    }
}
