import java.io.IOException;
import java.lang.reflect.InvocationTargetException;
import java.lang.reflect.Method;
import java.lang.reflect.Modifier;
import java.nio.file.Files;
import java.nio.file.Path;
import java.util.List;
import java.util.TreeSet;
import java.util.regex.Matcher;
import java.util.regex.Pattern;

/**
 * Makes the calls that README.md shows, in their order, on one object, and on Model.java too. A line of them is a call
 * and, behind two strokes, what it answers; the rest of the line is for the reader.
 */
public final class ReadmeTest {
    private static final int MOST_CALLS = 512;
    private static final Pattern TELL = Pattern.compile("tell\\(ring, (KEYS|\"(.*)\")\\);");
    private static final Pattern CALL = Pattern.compile("ring\\.(\\w+)\\(([^)]*)\\); +// (throws )?([-\\w]+)(:.*)?");

    private static int calls;

    public static void main(String[] args) throws IOException {
        List<String> lines = Files.readAllLines(Path.of("README.md"));
        String keys = block(lines, "-----BEGIN SEALED KEYS-----");
        String clear = block(lines, "-----BEGIN SEALED TEXT-----");
        SignetRing ring = new SignetRing();
        Model model = new Model();
        TreeSet<String> shown = new TreeSet<>();
        for (String line : lines) {
            Matcher tell = TELL.matcher(line);
            Matcher call = CALL.matcher(line);
            if (tell.matches()) {
                tell(ring, model, tell.group(2) == null ? keys : tell.group(2).replace("\\n", "\n"));
            } else if (call.matches()) {
                String want = call.group(3) == null ? call.group(4) : "throws." + call.group(4);
                Kit.same(line, asked(ring, call.group(1), call.group(2)), want);
                Kit.same(line + " (by the model)", asked(model, call.group(1), call.group(2)), want);
                shown.add(call.group(1));
                calls++;
            } else if (clear.startsWith(line + "\n")) {
                Kit.outIs("the clear text", ring, Kit.text(clear));
                calls += 40;
            } else {
                boolean forgotten = line.startsWith("ring.") || line.startsWith("tell(");
                Kit.same(line, forgotten ? "no call that is understood" : "right", "right");
            }
        }
        Kit.same("the calls that README.md shows", shown.toString(), face().toString());
        Kit.same("calls on one object", calls > MOST_CALLS ? "too many" : "enough", "enough");
        Kit.done();
    }

    private static TreeSet<String> face() {
        TreeSet<String> names = new TreeSet<>();
        for (Method method : SignetRing.class.getDeclaredMethods()) {
            if (Modifier.isPublic(method.getModifiers())) {
                names.add(method.getName());
            }
        }
        return names;
    }

    /** The text that begins with a line and ends where its block does. */
    private static String block(List<String> lines, String first) {
        List<String> rest = lines.subList(lines.indexOf(first), lines.size());
        return String.join("\n", rest.subList(0, rest.indexOf("```"))) + "\n";
    }

    private static void tell(SignetRing ring, Model model, String text) {
        Kit.feed(ring, Kit.text(text));
        calls += (text.length() + 7) / 8;
        for (char c : text.toCharArray()) {
            model.add(c, 1);
        }
    }

    private static String asked(Object of, String name, String arguments) {
        String[] told = arguments.isEmpty() ? new String[0] : arguments.split(", ");
        for (Method method : of.getClass().getDeclaredMethods()) {
            if (method.getName().equals(name) && method.getParameterCount() == told.length) {
                return answer(of, method, told);
            }
        }
        return "no such call";
    }

    private static String answer(Object of, Method method, String[] told) {
        Object[] given = new Object[told.length];
        for (int i = 0; i < told.length; i++) {
            boolean isInt = method.getParameterTypes()[i] == int.class;
            given[i] = isInt ? (Object) Integer.decode(told[i]) : (Object) Long.decode(told[i]);
        }
        try {
            return String.valueOf(method.invoke(of, given));
        } catch (InvocationTargetException e) {
            return "throws." + e.getCause().getClass().getSimpleName();
        } catch (IllegalAccessException e) {
            throw new IllegalStateException(e);
        }
    }
}
