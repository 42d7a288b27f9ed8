import java.nio.charset.StandardCharsets;
import java.util.Arrays;
import java.util.Base64;

/** Edges of what is in signs: promise 3 join, 5 look, 12 armor. */
public final class EdgeSignsTest {
    private static final byte[] KEY = Kit.packet(6, Run.anyKey(7));
    private static final String[] LABELS = {"SEALED KEYS", "SEAL", "SEALED LETTER"};
    /** Lines, each of another sort: the first, two with colons, the empty one, two of signs, the sum, the last, an empty one. */
    private static final String[] LINES = lines();
    private static final int FIRST = 0;
    private static final int COLON = 1;
    private static final int EMPTY = 3;
    private static final int SIGNS = 4;
    private static final int SUM = 6;
    private static final int LAST = 7;

    public static void main(String[] args) {
        lineEnds();
        blanksAtEnds();
        missingLines();
        firstLine();
        labels();
        colons();
        emptyLine();
        noBytes();
        groupsOfFour();
        bitsLeft();
        behindPadding();
        otherSigns();
        sumLine();
        lastLine();
        linesBehind();
        faultsOfPackets();
        made();
        oneAfterTheOther();
        Kit.done();
    }

    private static String[] lines() {
        String[] made = new String(Kit.signs("SEAL", KEY), StandardCharsets.ISO_8859_1).split("\n");
        return new String[] {made[0], "Note: x", "Other: a: b", "", made[2], made[3], made[4], made[5], ""};
    }

    private static String text(String[] lines) {
        return String.join("\n", lines) + "\n";
    }

    private static int place(int line) {
        return text(Arrays.copyOf(LINES, line)).length() - (line == 0 ? 1 : 0);
    }

    private static String[] with(int line, String other) {
        String[] lines = LINES.clone();
        lines[line] = other;
        return lines;
    }

    /** A key is read, or there is a fault; what is looked at is no key. */
    private static void is(String sentence, long want, String text) {
        new Run(sentence).join(want, Kit.text(text)).keys(want > 0 ? want : 0);
        new Run(sentence + " (looked at)").look(want > -100000 ? -1 : want, 5, Kit.text(text));
    }

    private static void right(String sentence, String[] lines) {
        is(sentence, 1, text(lines));
    }

    private static void wrong(String sentence, int line, String[] lines) {
        is(sentence, -100000 - place(line), text(lines));
    }

    private static void lineEnds() {
        String whole = text(Arrays.copyOf(LINES, LAST + 1));
        is("each line up to a byte 10", 1, whole);
        is("the last one perhaps without it", 1, whole.substring(0, whole.length() - 1));
        is("a 13 alone ends no line", -100000, whole.replace("\n", "\r"));
        for (int line : new int[] {FIRST, SIGNS + 1, SUM}) {
            int end = place(line + 1) - 1;
            is("line " + line + " without its 10", -100000 - place(line), whole.substring(0, end) + whole.substring(end + 1));
        }
        int between = place(SIGNS + 1) - 1;
        is("two lines of signs without the 10 between are one", 1, whole.substring(0, between) + whole.substring(between + 1));
    }

    private static void blanksAtEnds() {
        for (int line = 0; line < LINES.length; line++) {
            for (String blanks : new String[] {" ", "\t", "\r", " \t\r", "\r\r  \t\t"}) {
                right("blanks 9, 13, 32 at the end of line " + line, with(line, LINES[line] + blanks));
            }
            for (int other : new int[] {0, 1, 8, 11, 12, 14, 31, 33, 127, 133, 160, 255}) {
                String[] spoilt = with(line, LINES[line] + (char) other);
                if (line == COLON || line == COLON + 1) {
                    right("any byte at the end of a line with a colon", spoilt);
                } else {
                    wrong("no blank " + other + " at the end of line " + line, line, spoilt);
                }
            }
            if (line != COLON && line != COLON + 1 && line != EMPTY && line != LINES.length - 1) {
                wrong("blanks at the front of line " + line, line, with(line, " " + LINES[line]));
            }
        }
    }

    private static void missingLines() {
        for (int line = 1; line <= LAST; line++) {
            String text = text(Arrays.copyOf(LINES, line));
            is("the place of the end, if line " + line + " is missing", -100000 - text.length(), text);
            if (line != EMPTY + 1) {
                String shorter = text.substring(0, text.length() - 1);
                is("the place of the end, without 10, if line " + line + " is missing", -100000 - shorter.length(), shorter);
            }
        }
        is("no line missing", 1, text(Arrays.copyOf(LINES, LAST + 1)));
        for (int line = 0; line < LAST; line++) {
            String text = text(LINES);
            String without = text.substring(0, place(line)) + text.substring(place(line + 1));
            boolean may = line == COLON || line == COLON + 1;
            if (!may && line != SIGNS && line != SIGNS + 1) {
                is("a line behind the missing line " + line, -100000 - place(line), without);
            }
        }
        String text = text(LINES);
        String noSigns = text.substring(0, place(SIGNS)) + text.substring(place(SUM));
        is("lines of signs missing, so that the sum is another", -100000 - place(SIGNS), noSigns);
        String half = text.substring(0, place(SIGNS + 1)) + text.substring(place(SUM));
        is("a line of signs missing, so that the sum is another", -100000 - place(SIGNS + 1), half);
    }

    private static void firstLine() {
        for (String other : new String[] {"", "-", "-----", "-----BEGIN", "-----BEGIN ", "-----BEGIN SEAL", "-----BEGIN SEAL-", "-----BEGIN SEAL----",
            "-----BEGIN SEAL------", "------BEGIN SEAL-----", "----BEGIN SEAL-----", "-----BEGINSEAL-----", "-----BEGIN  SEAL-----",
            "-----BEGIN\tSEAL-----", "-----BEGIN SEAL -----", "-----BEGIN seal-----", "-----Begin SEAL-----", "-----END SEAL-----",
            "-----BEGIN SEAL-----x", "x-----BEGIN SEAL-----", "-----BEGIN SEAL----- -----", "-----BEGIN SEA-----", "-----BEGIN SEALS-----",
            "-----BEGIN SEALED-----", "-----BEGIN SEALED KEY-----", "-----BEGIN SEALED KEYS -----", "-----BEGIN SEALED  KEYS-----",
            "-----BEGIN SEALED LETTERS-----", "-----BEGIN -----", "-----BEGIN SEALED TEXT -----"}) {
            wrong("the first line " + other, FIRST, with(FIRST, other));
        }
        is("clear text is not joined", -100000, "-----BEGIN SEALED TEXT----\n\n");
        new Run("clear text is not joined").join(-100000, Kit.text("-----BEGIN SEALED TEXT-----\n\n"));
        new Run("clear text is looked at").look(-100029, 5, Kit.text("-----BEGIN SEALED TEXT-----\n\n"));
    }

    private static void labels() {
        for (String begin : LABELS) {
            for (String end : LABELS) {
                String text = text(LINES).replace("BEGIN SEAL-", "BEGIN " + begin + "-").replace("END SEAL-", "END " + end + "-");
                long place = text.indexOf("-----END");
                is("any of them, and the same label", begin.equals(end) ? 1 : -100000 - place, text);
            }
        }
    }

    private static String colonLines(String... lines) {
        String text = text(LINES);
        StringBuilder all = new StringBuilder(text.substring(0, place(COLON)));
        for (String line : lines) {
            all.append(line).append('\n');
        }
        return all + text.substring(place(EMPTY));
    }

    private static void colons() {
        is("no lines with a colon", 1, colonLines());
        is("a line with a colon", 1, colonLines("a: b"));
        is("many lines with a colon", 1, colonLines("a: b", "a: b", ": ,", "x : y", ":: z", "a:b: c", "-----END SEAL-----: x"));
        for (String bad : new String[] {"x", "a:b", "a :b", ":", "a:", "a: ", "a:\tb", "a:\t", "a;b", "=twTO", "-----END SEAL-----"}) {
            is("a line without a colon and a blank behind it, " + bad, -100000 - place(COLON), colonLines(bad));
            is("a line without a colon and a blank behind it, " + bad, -100000 - place(COLON) - 5, colonLines("a: b", bad));
        }
    }

    private static void emptyLine() {
        right("an empty line", LINES);
        wrong("no empty line", EMPTY, with(EMPTY, "x"));
        String two = text(LINES).substring(0, place(SIGNS)) + "\n" + text(LINES).substring(place(SIGNS));
        is("two empty lines", -100000 - place(SIGNS), two);
        String inside = text(LINES).substring(0, place(SIGNS + 1)) + "\n" + text(LINES).substring(place(SIGNS + 1));
        is("an empty line among the signs", -100000 - place(SIGNS + 1), inside);
    }

    private static void noBytes() {
        String begin = "-----BEGIN SEAL-----\n\n";
        String end = "\n-----END SEAL-----\n";
        is("no lines of signs for no bytes", -1, begin + "=twTO" + end);
        is("another sum of no bytes", -100000 - begin.length(), begin + "=twTP" + end);
        is("another sum of no bytes", -100000 - begin.length(), begin + "=AAAA" + end);
        is("an empty line of signs", -100000 - begin.length(), begin + "\n=twTO" + end);
    }

    private static String signs(String... lines) {
        StringBuilder body = new StringBuilder("-----BEGIN SEAL-----\n\n");
        StringBuilder plain = new StringBuilder();
        for (String line : lines) {
            body.append(line).append('\n');
            plain.append(line);
        }
        String all = plain.toString().replaceAll("[^A-Za-z0-9+/]", "");
        byte[] bytes = Base64.getDecoder().decode(all.substring(0, all.length() - (all.length() % 4 == 1 ? 1 : 0)));
        return body + "=" + Base64.getEncoder().encodeToString(Kit.big(Kit.sum(bytes), 3)) + "\n-----END SEAL-----\n";
    }

    /** What the signs stand for is no packet: then the fault is that of packet 0. */
    private static void lineIs(String sentence, boolean right, int line, String... lines) {
        int place = 22;
        for (int i = 0; i < line; i++) {
            place += lines[i].length() + 1;
        }
        is(sentence + " " + String.join(",", lines), right ? -1 : -100000 - place, signs(lines));
    }

    private static void groupsOfFour() {
        for (int count = 1; count <= 130; count++) {
            lineIs("groups of four, " + count + " signs", count % 4 == 0, 0, "A".repeat(count));
            lineIs("groups of four, " + count + " signs", count % 4 == 0, 1, "ABCD", "A".repeat(count));
        }
        lineIs("a long line", true, 0, "A".repeat(2000));
        lineIs("lines of four", true, 0, "ABCD", "ABCD", "ABCD", "ABCDABCD", "ABCD");
        for (String bad : new String[] {"A", "AB", "ABC", "ABCDA", "ABCDAB", "ABCDABC"}) {
            lineIs("groups of four in each line", false, 0, bad, "ABCD".substring(bad.length() % 4));
        }
    }

    private static void bitsLeft() {
        String all = "ABCDEFGHIJKLMNOPQRSTUVWXYZabcdefghijklmnopqrstuvwxyz0123456789+/";
        for (int i = 0; i < 64; i++) {
            char sign = all.charAt(i);
            lineIs("xx== one byte, the bits left are 0", i % 16 == 0, 0, "A" + sign + "==");
            lineIs("xxx= two bytes, the bits left are 0", i % 4 == 0, 0, "AB" + sign + "=");
            lineIs("three bytes", true, 0, "ABC" + sign);
            lineIs("the first sign", true, 0, sign + "BCD");
        }
        lineIs("xx== behind others", true, 0, "ABCDAA==");
        lineIs("xxx= behind others", true, 0, "ABCDABA=");
        for (String bad : new String[] {"A===", "====", "AA=A", "A=AA", "=AAA", "A=A=", "A==A", "AA=", "AAAA=", "AAAA==", "AAAA====", "AAA==", "AA==="}) {
            if (bad.startsWith("=")) {
                is("a line of signs " + bad, -100022, "-----BEGIN SEAL-----\n\n" + bad + "\n=twTO\n-----END SEAL-----\n");
            } else {
                lineIs("otherwise", false, 0, bad);
            }
        }
    }

    private static void behindPadding() {
        lineIs("at last = or ==", true, 0, "ABCD", "AA==");
        for (String behind : new String[] {"ABCD", "AA==", "AAA=", "A", "x:y"}) {
            lineIs("a line behind an =", false, 1, "AAA=", behind);
            lineIs("a line behind an =", false, 1, "AA==", behind);
        }
        lineIs("a group behind an =", false, 0, "AAA=ABCD");
        lineIs("a group behind an =", false, 0, "AA==ABCD");
        lineIs("a group behind an =", false, 0, "AA==AA==");
        lineIs("a group behind an =, in the second line", false, 1, "ABCD", "AAA=ABCD");
    }

    private static void otherSigns() {
        for (int sign = 0; sign < 256; sign++) {
            boolean right = sign >= 'A' && sign <= 'Z' || sign >= 'a' && sign <= 'z' || sign >= '0' && sign <= '9' || sign == '+'
                || sign == '/';
            if (sign != 10 && sign != '=') {
                lineIs("signs A .. Z a .. z 0 .. 9 + /, not " + sign, right, 0, "AB" + (char) sign + "D");
                lineIs("signs A .. Z a .. z 0 .. 9 + /, not " + sign, right, 0, (char) sign + "BCD");
            }
        }
    }

    private static void sumLine() {
        String sum = LINES[SUM];
        right("= and four signs", LINES);
        for (int i = 1; i < 5; i++) {
            char other = sum.charAt(i) == 'A' ? 'B' : 'A';
            wrong("for another sum its own line", SUM, with(SUM, sum.substring(0, i) + other + sum.substring(i + 1)));
            wrong("a sum with another sign", SUM, with(SUM, sum.substring(0, i) + "=" + sum.substring(i + 1)));
            wrong("a sum with another sign", SUM, with(SUM, sum.substring(0, i) + "?" + sum.substring(i + 1)));
        }
        for (String bad : new String[] {"=", sum.substring(0, 4), sum + "A", sum + "=", "=" + sum, sum.substring(1), "=" + sum.substring(1, 4),
            sum + sum.substring(1), sum + " " + sum}) {
            if (!bad.equals(sum.substring(1))) {
                wrong("a sum of " + bad, SUM, with(SUM, bad));
            }
        }
        String text = text(LINES);
        String twice = text.substring(0, place(LAST)) + sum + "\n" + text.substring(place(LAST));
        is("a second sum", -100000 - place(LAST), twice);
        String early = text.substring(0, place(SIGNS)) + sum + "\n" + text.substring(place(SIGNS));
        is("a sum before its signs", -100000 - place(SIGNS), early);
    }

    private static void lastLine() {
        right("-----END, a blank, the same label, -----", LINES);
        for (String bad : new String[] {"", "-----END", "-----END ", "-----END SEAL", "-----END SEAL----", "-----END SEAL------", "----END SEAL-----",
            "-----ENDSEAL-----", "-----END  SEAL-----", "-----END\tSEAL-----", "-----end SEAL-----", "-----BEGIN SEAL-----", "-----END SEALED KEYS-----",
            "-----END SEALED LETTER-----", "-----END SEALED TEXT-----", "-----END -----", "-----END SEAL-----x", "x", "ABCD"}) {
            wrong("the last line " + bad, LAST, with(LAST, bad));
        }
    }

    private static void linesBehind() {
        String text = text(Arrays.copyOf(LINES, LAST + 1));
        for (String empties : new String[] {"\n", "\n\n\n", " ", "\t\r ", " \n\r\n\t\n", "\r"}) {
            is("no line behind it but empty ones", 1, text + empties);
        }
        for (String empties : new String[] {"", "\n", "\n \n", "\r\n\r\n"}) {
            int place = text.length() + empties.length();
            is("a line behind it", -100000 - place, text + empties + "x");
            is("a line behind it", -100000 - place, text + empties + " x\n\n");
            is("a line behind it", -100000 - place, text + empties + text);
        }
    }

    private static void faultsOfPackets() {
        byte[] two = Kit.cat(KEY, Kit.packet(12, Kit.row(1)), Kit.row(5));
        new Run("of signs: those that they stand for").join(-1 - KEY.length - 3, Kit.signs("SEAL", two));
        new Run("of signs: the number of all").join(-4, Kit.signs("SEAL", Kit.packet(12, Kit.row(1))));
        new Run("of signs: the number of all, of no bytes").join(-1, Kit.signs("SEAL", new byte[0]));
        new Run("what signs stand for is packets").join(-1, Kit.signs("SEAL", Kit.text("-----BEGIN SEAL-----")));
        String spoilt = new String(Kit.signs("SEAL", two), StandardCharsets.ISO_8859_1).replace("-----END SEAL", "-----END SEALED KEYS");
        new Run("a line's fault before a packet's").join(-100000 - spoilt.indexOf("-----END"), Kit.text(spoilt));
    }

    private static void made() {
        for (int size = 0; size <= 200; size++) {
            byte[] out = Kit.cat(KEY, Kit.packet(13, new byte[size]));
            byte[] signs = Kit.signs(LABELS[size % 3], out);
            new Run("lines of 64 signs, of " + out.length + " bytes").join(1, KEY, Kit.packet(13, new byte[size])).export(out.length, 0)
                .armor(signs.length, size % 3).outIs(signs).take(signs.length).join(1).key(1, 0, 2);
        }
        byte[] none = Kit.text("-----BEGIN SEAL-----\n\n=twTO\n-----END SEAL-----\n");
        new Run("none if there are no bytes").armor(none.length, 1).outIs(none).take(none.length).join(-1);
        byte[] again = Kit.signs("SEALED KEYS", none);
        new Run("signs of signs").armor(none.length, 1).armor(again.length, 0).outIs(again).take(again.length).join(-1);
    }

    /** Signs that were read before leave nothing behind: neither bytes, nor that an = was there. */
    private static void oneAfterTheOther() {
        for (int first = 0; first < 3; first++) {
            for (int second = 0; second < 3; second++) {
                byte[] one = Kit.signs("SEAL", Kit.cat(KEY, Kit.packet(13, new byte[first])));
                byte[] other = Kit.signs("SEAL", Kit.cat(KEY, Kit.packet(13, new byte[second + 50])));
                new Run("signs after others").join(1, one).join(1, other).key(2, 0, 2).join(-1, Kit.signs("SEAL", new byte[0])).join(1, one)
                    .join(-100000 - one.length + 19, Kit.cut(one, 0, one.length - 19)).join(1, other).key(2, 0, 2).keys(1);
            }
        }
    }
}
