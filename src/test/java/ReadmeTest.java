import java.io.IOException;
import java.lang.reflect.Method;
import java.nio.file.Files;
import java.nio.file.Path;
import java.util.regex.Matcher;
import java.util.regex.Pattern;

/** The calls of the examples in README.md answer what stands behind them, and all of the face is used or named. */
public final class ReadmeTest {
    private static final Pattern CALL = Pattern.compile("engine\\.(\\w+)\\(([^)]*)\\);\\s*// (-?\\d+|true|false)(:.*)?");
    private static FlowEngine engine = null;
    private static int calls = 0;

    public static void main(String[] args) throws IOException, ReflectiveOperationException {
        String text = Files.readString(Path.of("README.md"));
        for (String line : text.split("\n")) {
            Matcher call = CALL.matcher(line);
            if (line.equals("FlowEngine engine = new FlowEngine();")) {
                engine = new FlowEngine();
            } else if (call.matches()) {
                calls++;
                Check.due(line, number(answer(call.group(1), call.group(2))), number(call.group(3)));
            } else {
                Check.due("an example that can't be read: " + line, line.startsWith("engine."), false);
            }
        }
        Check.due("some examples are there", calls >= 30, true);
        for (Method m : FlowEngine.class.getMethods()) {
            if (m.getDeclaringClass() == FlowEngine.class) {
                Check.due("README.md tells of " + m.getName(), text.contains("| `" + m.getName() + "("), true);
            }
        }
        Check.end();
    }

    private static Object answer(String name, String arguments) throws ReflectiveOperationException {
        String[] words = arguments.isEmpty() ? new String[0] : arguments.split(", ");
        Object[] values = new Object[words.length];
        for (int i = 0; i < words.length; i++) {
            values[i] = words[i].equals("true") || words[i].equals("false")
                    ? (Object) Boolean.valueOf(words[i]) : (Object) Integer.valueOf(words[i]);
        }
        for (Method m : FlowEngine.class.getMethods()) {
            if (m.getName().equals(name)) {
                return m.invoke(engine, values);
            }
        }
        throw new NoSuchMethodException(name);
    }

    private static int number(Object answer) {
        String words = answer.toString();
        return words.equals("true") ? 1 : words.equals("false") ? 0 : Integer.parseInt(words);
    }
}
