import java.io.IOException;
import java.lang.reflect.InvocationTargetException;
import java.lang.reflect.Method;
import java.nio.file.Files;
import java.nio.file.Path;
import java.util.List;
import java.util.regex.Matcher;
import java.util.regex.Pattern;

/** Makes all calls of README.md's examples; behind each one stands what it has to answer. */
public final class ReadmeTest {
    private static final String NEW_OBJECT = "Stratahold x = new Stratahold();";
    private static final Pattern TEXT = Pattern.compile("write\\(x, \"([^\"]*)\"\\);");
    private static final Pattern CALL = Pattern.compile("x\\.(\\w+)\\(([^)]*)\\); +// (throws \\w+|-?\\w+)(:.*)?");

    private static Stratahold x = new Stratahold();
    private static int calls = 0;

    public static void main(String[] args) throws IOException {
        boolean example = false;
        for (String line : Files.readAllLines(Path.of("README.md"))) {
            if (line.equals(NEW_OBJECT)) {
                x = new Stratahold();
                example = true;
            } else if (line.startsWith("```")) {
                example = false;
            } else if (example) {
                play(line);
            }
        }
        Checks.due("the README has examples", calls > 40, true);
        Checks.end();
    }

    private static void play(String line) {
        Matcher text = TEXT.matcher(line);
        Matcher call = CALL.matcher(line);
        if (text.matches()) {
            Checks.write(x, text.group(1));
        } else if (call.matches()) {
            calls++;
            Checks.due(line, answer(call.group(1), call.group(2)), call.group(3));
        } else {
            Checks.due("reading the line " + line, "nothing", "a call");
        }
    }

    private static String answer(String name, String arguments) {
        List<String> parts = arguments.isEmpty() ? List.of() : List.of(arguments.split(", "));
        Object[] values = new Object[parts.size()];
        for (int i = 0; i < values.length; i++) {
            values[i] = value(parts.get(i));
        }
        try {
            Object answer = method(name, values.length).invoke(x, values);
            return shown(name, answer);
        } catch (InvocationTargetException e) {
            return "throws " + e.getCause().getClass().getSimpleName();
        } catch (ReflectiveOperationException | IllegalArgumentException e) {
            return "no such call: " + e;
        }
    }

    private static Object value(String part) {
        return part.startsWith("'") ? (Object) part.charAt(1) : (Object) Integer.parseInt(part);
    }

    private static Method method(String name, int arguments) throws NoSuchMethodException {
        for (Method method : Stratahold.class.getMethods()) {
            if (method.getName().equals(name) && method.getParameterCount() == arguments) {
                return method;
            }
        }
        throw new NoSuchMethodException(name);
    }

    /** An answer as the README writes it: names for what stands for no number. */
    private static String shown(String name, Object answer) {
        boolean why = name.equals("why");
        if (answer == null) {
            return "nothing";
        }
        if (answer.equals(Stratahold.NONE)) {
            return "NONE";
        }
        return why && answer.equals(Stratahold.TOLD) ? "TOLD" : why && answer.equals(Stratahold.CHOSEN) ? "CHOSEN"
                : answer.toString();
    }
}
