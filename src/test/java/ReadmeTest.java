import java.io.IOException;
import java.lang.reflect.InvocationTargetException;
import java.lang.reflect.Method;
import java.nio.file.Files;
import java.nio.file.Path;
import java.util.regex.Matcher;
import java.util.regex.Pattern;

/** Asks every line of README.md's Java and compares what it answers with what stands behind it; takes the project's folder. */
public final class ReadmeTest extends Checking {
    private static final Pattern CALL = Pattern.compile("s\\.(\\w+)\\((.*)\\);\\s*(?:// (throws \\w+|[\\w-]+).*)?");
    private static Selfkindle s;

    public static void main(String[] args) throws IOException {
        boolean isJava = false;
        int lines = 0;
        for (String line : Files.readAllLines(Path.of(args[0], "README.md"))) {
            if (line.startsWith("```")) {
                isJava = line.equals("```java");
            } else if (isJava) {
                lines++;
                holds(line, () -> ask(line));
            }
        }
        int asked = lines;
        holds("README.md has lines of Java", () -> due(true, asked > 10));
        finish();
    }

    private static void ask(String line) {
        if (line.equals("Selfkindle s = new Selfkindle();")) {
            s = new Selfkindle();
            due(0, s.size());
            return;
        }
        Matcher call = CALL.matcher(line);
        due(true, call.matches());
        String due = call.group(3) == null ? "null" : call.group(3);
        same(due.matches("[A-Z_]+") ? "" + constant(due) : due, answer(call.group(1), call.group(2)));
    }

    private static String answer(String name, String arguments) {
        String[] texts = arguments.isEmpty() ? new String[0] : arguments.split(", ");
        for (Method method : Selfkindle.class.getMethods()) {
            if (method.getName().equals(name) && method.getParameterCount() == texts.length) {
                Object[] values = new Object[texts.length];
                for (int i = 0; i < texts.length; i++) {
                    values[i] = argument(method.getParameterTypes()[i], texts[i]);
                }
                return "" + answer(method, values);
            }
        }
        return "there is no such call";
    }

    private static Object answer(Method method, Object[] values) {
        try {
            return method.invoke(s, values);
        } catch (InvocationTargetException thrown) {
            return "throws " + thrown.getCause().getClass().getSimpleName();
        } catch (IllegalAccessException thrown) {
            return "is not public";
        }
    }

    private static Object argument(Class<?> type, String text) {
        if (type == boolean.class) {
            return text.equals("true");
        }
        if (type == long.class) {
            return Long.parseLong(text.replace("L", ""));
        }
        int all = 0;
        for (String one : text.split(" \\| ")) {
            all |= one.matches("-?\\d+") ? Integer.parseInt(one) : constant(one);
        }
        return all;
    }

    private static int constant(String name) {
        try {
            return Selfkindle.class.getField(name).getInt(null);
        } catch (ReflectiveOperationException thrown) {
            throw new IllegalArgumentException(name);
        }
    }
}
