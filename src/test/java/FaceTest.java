import java.lang.reflect.Constructor;
import java.lang.reflect.Field;
import java.lang.reflect.Method;
import java.lang.reflect.Modifier;
import java.util.Arrays;
import java.util.TreeSet;

/** The public face is the document's, and nothing more can be seen from outside. */
public final class FaceTest {
    public static void main(String[] args) {
        Check.due("REFUSED", FlowEngine.REFUSED, -1);
        Check.due("NONE", FlowEngine.NONE, -2);
        Check.due("FULL", FlowEngine.FULL, -3);
        Check.due("public", Modifier.isPublic(FlowEngine.class.getModifiers()), true);
        Check.due("final", Modifier.isFinal(FlowEngine.class.getModifiers()), true);

        TreeSet<String> want = new TreeSet<>(Arrays.asList(
                "REFUSED", "NONE", "FULL", "new[]",
                "int add[int, int, int, int]", "boolean change[int, int, int, int, int]",
                "int start[int, int]", "boolean remove[int]", "int signal[int, int, int]",
                "int take[]", "int answer[int, boolean, int]", "int tick[int]",
                "boolean forget[int]", "int flow[int, int]", "int entry[int, int, int]",
                "int line[int]", "int count[int]"));
        Check.due("the face is " + seen() + ", due is " + want, seen().equals(want), true);
        Check.due("a private method bears a public one's name", privateTwins(), 0);
        Check.end();
    }

    private static TreeSet<String> seen() {
        TreeSet<String> names = new TreeSet<>();
        for (Field f : FlowEngine.class.getDeclaredFields()) {
            if (!Modifier.isPrivate(f.getModifiers())) {
                names.add(f.getName());
            }
        }
        for (Constructor<?> c : FlowEngine.class.getDeclaredConstructors()) {
            if (!Modifier.isPrivate(c.getModifiers())) {
                names.add("new" + parameters(c.getParameterTypes()));
            }
        }
        for (Method m : FlowEngine.class.getDeclaredMethods()) {
            if (!Modifier.isPrivate(m.getModifiers())) {
                names.add(m.getReturnType() + " " + m.getName() + parameters(m.getParameterTypes()));
            }
        }
        return names;
    }

    private static String parameters(Class<?>[] types) {
        return Arrays.toString(types);
    }

    private static int privateTwins() {
        TreeSet<String> open = new TreeSet<>();
        for (Method m : FlowEngine.class.getDeclaredMethods()) {
            if (Modifier.isPublic(m.getModifiers())) {
                open.add(m.getName());
            }
        }
        int twins = 0;
        for (Method m : FlowEngine.class.getDeclaredMethods()) {
            if (!Modifier.isPublic(m.getModifiers()) && open.contains(m.getName())) {
                twins++;
            }
        }
        for (Class<?> inside : FlowEngine.class.getDeclaredClasses()) {
            for (Method m : inside.getDeclaredMethods()) {
                if (open.contains(m.getName())) {
                    twins++;
                }
            }
        }
        return twins;
    }
}
