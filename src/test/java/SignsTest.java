import java.nio.charset.StandardCharsets;

/** Promise 12 armor, and what is in signs for promises 3 join and 5 look. */
public final class SignsTest {
    private static final Kit.Pair ADA = new Kit.Pair(512, 65537, 1000, 1);
    private static final String[] LABELS = {"SEALED KEYS", "SEAL", "SEALED LETTER"};

    public static void main(String[] args) {
        armor();
        reads();
        places();
        groups();
        Kit.done();
    }

    private static void armor() {
        SignetRing x = new SignetRing();
        Kit.due("armor(-1)", () -> x.armor(-1), Kit.ARGUMENT);
        Kit.due("armor(3)", () -> x.armor(3), Kit.ARGUMENT);
        byte[] none = Kit.signs("SEAL", new byte[0]);
        Kit.due("armor of nothing", () -> x.armor(1), none.length);
        Kit.outIs("armor of nothing", x, none);
        for (int size = 0; size < 60; size++) {
            byte[] key = Kit.cat(ADA.key(), Kit.packet(13, new byte[size]));
            SignetRing y = Kit.ring(key);
            int label = size % 3;
            byte[] want = Kit.signs(LABELS[label], key);
            Kit.due("export", () -> y.export(0), key.length);
            Kit.due("armor", () -> y.armor(label), want.length);
            Kit.outIs("armor", y, want);
            Kit.due("sum", y::sum, Kit.sum(want));
            Kit.due("take", y::take, want.length);
            Kit.due("what was made is read", y::join, 1);
            Kit.due("seals", () -> y.key(0, 2), 1);
        }
        SignetRing z = Kit.ring(ADA.secretKey());
        byte[] want = ADA.key();
        Kit.due("export", () -> z.export(0), want.length);
        for (int turn = 0; want.length <= 8000; turn++) {
            want = Kit.signs("SEAL", want);
            int size = want.length;
            Kit.due("armor of armor", () -> z.armor(1), size);
            Kit.outIs("armor of armor", z, want);
        }
        Kit.due("armor of more than 8000", () -> z.armor(0), Kit.UNSUPPORTED);
        Kit.due("armor of more, wrong label", () -> z.armor(7), Kit.ARGUMENT);
        Kit.outIs("the out stays", z, want);
    }

    private static void joinIs(String what, long want, String text) {
        SignetRing x = new SignetRing();
        Kit.due("join of " + what, () -> Kit.join(x, Kit.text(text)), want);
        Kit.due("keys", x::keys, want > 0 ? want : 0);
        // what it stands for is never a seal: where the signs are right, the first packet is wrong
        Kit.due("look at " + what, () -> Kit.look(x, 5, Kit.text(text)), want > -100000 ? -1 : want);
    }

    private static String keyInSigns() {
        return new String(Kit.signs("SEALED KEYS", ADA.key()), StandardCharsets.ISO_8859_1);
    }

    private static void reads() {
        String signs = keyInSigns();
        joinIs("signs", 1, signs);
        for (String label : LABELS) {
            joinIs("label " + label, 1, signs.replace("SEALED KEYS", label));
        }
        joinIs("13 at the ends", 1, signs.replace("\n", "\r\n"));
        joinIs("blanks at the ends", 1, signs.replace("\n", " \t\r \n"));
        joinIs("lines with colons", 1, signs.replaceFirst("\n\n", "\nVersion: 1\n: x\na: b: c\n\n"));
        joinIs("no 10 at the end", 1, signs.substring(0, signs.length() - 1));
        joinIs("empty lines at the end", 1, signs + "\n \t\n\r\n\n");
        joinIs("an empty line without 10", 1, signs + "\n  ");
        joinIs("short lines", 1, signs.replaceAll("(?m)^([A-Za-z0-9+/]{20})([A-Za-z0-9+/]{44})$", "$1\n$2"));
        joinIs("one long line", 1, signs.replaceAll("(?m)^([A-Za-z0-9+/]{64})\n", "$1"));
        joinIs("no bytes", -1, new String(Kit.signs("SEAL", new byte[0]), StandardCharsets.ISO_8859_1));
        byte[] half = Kit.cat(ADA.key(), Kit.packet(12, Kit.row(1, 2)), Kit.row(1));
        joinIs("a fault in packets", -1 - 83, new String(Kit.signs("SEAL", half), StandardCharsets.ISO_8859_1));
    }

    /** Each line in turn is spoilt: the fault tells where it begins. */
    private static void places() {
        String signs = keyInSigns().replaceFirst("\n\n", "\nNote: x\n\n") + "\n";
        int place = 0;
        String[] lines = signs.split("\n", -1);
        for (int i = 0; i < lines.length - 1; i++) {
            String line = lines[i];
            String before = signs.substring(0, place);
            String behind = signs.substring(place + line.length());
            joinIs("a spoilt line " + i, -100000 - place, before + "?" + line.replace(":", "") + behind);
            joinIs("missing lines from " + i, i == 0 ? -1 : i >= lines.length - 2 ? 1 : -100000 - place, before);
            place += line.length() + 1;
        }
        String[] firsts = {"-----BEGIN SEALED TEXTS-----", "-----BEGIN SEAL----", "-----BEGIN SEAL------", "-----BEGIN  SEAL-----",
            "----BEGIN SEAL-----", "-----BEGIN SEALED-----", "-----BEGIN -----", "-----END SEAL-----", " -----BEGIN SEAL-----",
            "-----begin SEAL-----", "-----BEGINSEAL-----", ""};
        for (String first : firsts) {
            joinIs("the first line " + first, -100000, signs.replaceFirst(".*\n", first + "\n"));
        }
        int end = signs.indexOf("-----END");
        for (String last : new String[] {"-----END SEAL-----", "-----END SEALED KEYS----", "-----END SEALED KEYS------",
            "----END SEALED KEYS-----", "", "-----BEGIN SEALED KEYS-----"}) {
            joinIs("the last line " + last, -100000 - end, signs.substring(0, end) + last + "\n");
        }
        joinIs("a line behind", -100000 - signs.length() - 1, signs + "\nx\n");
        joinIs("a colon without a blank", -100028, signs.replace("Note: x", "Note:x"));
        joinIs("a colon and a blank at the end", -100028, signs.replace("Note: x", "Note: "));
        joinIs("a blank that is none", -100028, signs.replace("Note: x", "Note:\tx"));
        joinIs("no empty line", -100000 - signs.indexOf("\n\n") - 1, signs.replaceFirst("\n\n", "\n"));
        joinIs("two empty lines", -100000 - signs.indexOf("\n\n") - 2, signs.replaceFirst("\n\n", "\n\n\n"));
        joinIs("a byte above 127 first", -1, "\u0080" + signs);
    }

    private static void groupIs(String what, boolean right, String line) {
        int at = "-----BEGIN SEAL-----\n\n".length();
        byte[] plain = right ? java.util.Base64.getDecoder().decode(line.replace("\n", "")) : new byte[3];
        String sum = java.util.Base64.getEncoder().encodeToString(Kit.big(Kit.sum(plain), 3));
        String text = "-----BEGIN SEAL-----\n\n" + line + "\n=" + sum + "\n-----END SEAL-----\n";
        int wrong = line.indexOf('\n') + 1;
        joinIs(what, right ? -1 : -100000 - at - wrong, text);
        String other = "-----BEGIN SEAL-----\n\n" + line + "\n=" + "AAAA" + "\n-----END SEAL-----\n";
        joinIs(what + ", another sum", -100000 - at - (right ? line.length() + 1 : wrong), other);
    }

    private static void groups() {
        groupIs("three bytes", true, "ABCD");
        groupIs("two bytes", true, "ABA=");
        groupIs("one byte", true, "AA==");
        groupIs("all signs", true, "ABCDEFGHIJKLMNOPQRSTUVWXYZabcdefghijklmnopqrstuvwxyz0123456789+/");
        groupIs("bits left of two", false, "ABB=");
        groupIs("bits left of two", false, "ABC=");
        groupIs("bits left of one", false, "AB==");
        groupIs("bits left of one", false, "AI==");
        groupIs("bits of one that are not left", true, "AQ==");
        groupIs("bits of two that are not left", true, "AAE=");
        groupIs("three =", false, "A===");
        groupIs("an = inside", false, "AA=A");
        groupIs("an = before others", false, "AA==ABCD");
        groupIs("an = before others", false, "AAA=ABCD");
        groupIs("three signs", false, "ABC");
        groupIs("five signs", false, "ABCDE");
        groupIs("seven signs", false, "ABCDAA=");
        groupIs("another sign", false, "AB-D");
        groupIs("another sign", false, "AB.D");
        groupIs("another sign", false, "AB@D");
        groupIs("another sign", false, "AB[D");
        groupIs("another sign", false, "AB`D");
        groupIs("another sign", false, "AB{D");
        groupIs("another sign", false, "AB:D");
        groupIs("a blank inside", false, "AB D");
        groupIs("a line behind an =", false, "AAA=\nABCD");
        groupIs("a line behind ==", false, "AA==\nAA==");
        groupIs("two lines", true, "ABCD\nAA==");
        groupIs("a wrong second line", false, "ABCD\nABCDE");
        int at = "-----BEGIN SEAL-----\n\nABCD\n".length();
        for (String sum : new String[] {"=", "=AAA", "=AAAAA", "==AAA", "=AAA=", "=AA A", "====="}) {
            joinIs("the sum " + sum, -100000 - at, "-----BEGIN SEAL-----\n\nABCD\n" + sum + "\n-----END SEAL-----\n");
        }
    }
}
