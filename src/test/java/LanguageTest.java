import java.io.IOException;
import java.lang.reflect.Field;
import java.lang.reflect.Method;
import java.lang.reflect.Modifier;
import java.nio.file.Files;
import java.nio.file.Path;
import java.util.regex.Matcher;
import java.util.regex.Pattern;

/** The rules of ../shared/LANGUAGE.md that can be seen in the class or in its text. */
public final class LanguageTest {
    private static final int MOST_CLASSES = 12;
    private static final int MOST_FIELDS = 20;
    private static final int MOST_PARAMETERS = 7;
    private static final int MOST_LINES = 60;

    // The program needs nothing of the library, throws nothing, and has no loop but with a counter.
    private static final String[] NOT_USED = {
        "import ", "package ", "->", "::", "throw ", "try ", "catch ", "finally", "synchronized", "assert ",
        "while ", "System.", "Math.", "String", "equals(", "hashCode", "static {"};

    public static void main(String[] args) throws IOException {
        String text = Files.readString(Path.of("src/main/java/FlowEngine.java"));
        String code = text.replaceAll("(?s)/\\*.*?\\*/", "").replaceAll("//.*", "");
        for (String words : NOT_USED) {
            Check.due("the program uses " + words, code.contains(words), false);
        }
        Check.due("characters above 255", text.chars().anyMatch(c -> c > 255), false);
        everyLoopHasACounter(code);
        methodsAreShort(code);
        Check.due("classes", 1 + FlowEngine.class.getDeclaredClasses().length <= MOST_CLASSES, true);
        looksAt(FlowEngine.class);
        for (Class<?> inside : FlowEngine.class.getDeclaredClasses()) {
            int modifiers = inside.getModifiers();
            Check.due(inside + " is private and static",
                    Modifier.isPrivate(modifiers) && Modifier.isStatic(modifiers), true);
            looksAt(inside);
        }
        Check.end();
    }

    private static void everyLoopHasACounter(String code) {
        Matcher loop = Pattern.compile("for \\(.*").matcher(code);
        while (loop.find()) {
            boolean counted = loop.group().matches("for \\(int (\\w+) = \\w+; \\1( \\+ 1)? < [^;]+; \\1\\+\\+\\) \\{");
            Check.due("a counter against a bound: " + loop.group(), counted, true);
        }
    }

    private static void methodsAreShort(String code) {
        boolean inside = false;
        int length = 0;
        int methods = 0;
        for (String line : code.split("\n")) {
            String indent = inside ? " {8}" : " {4}";
            if (line.matches(indent + "\\S.*\\) \\{")) {
                length = 0;
                methods++;
            }
            length++;
            if (line.matches(indent + "\\}")) {
                Check.due("a method has " + length + " lines", length <= MOST_LINES, true);
            }
            if (line.matches(" {4}.* class .*")) {
                inside = true;
            } else if (line.equals("    }")) {
                inside = false;
            }
        }
        Check.due("methods were found", methods > 40, true);
    }

    private static void looksAt(Class<?> type) {
        int fields = 0;
        for (Field f : type.getDeclaredFields()) {
            if (Modifier.isStatic(f.getModifiers())) {
                Check.due(f + " is final", Modifier.isFinal(f.getModifiers()), true);
                Check.due(f + " is an int or a row of ints",
                        f.getType() == int.class || f.getType() == int[].class, true);
            } else {
                fields++;
            }
        }
        Check.due("fields of " + type, fields <= MOST_FIELDS, true);
        for (Method m : type.getDeclaredMethods()) {
            Check.due("parameters of " + m, m.getParameterCount() <= MOST_PARAMETERS, true);
        }
    }
}
