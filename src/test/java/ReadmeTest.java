import java.io.IOException;
import java.lang.reflect.Method;
import java.lang.reflect.Modifier;
import java.nio.file.Files;
import java.nio.file.Path;
import java.util.regex.Matcher;
import java.util.regex.Pattern;

/** README.md's example answers what stands there, and every call of the face is in its table. */
public final class ReadmeTest {
    private static final Pattern TEXT = Pattern.compile("String text = \"(.*)\";");
    private static final Pattern CALL = Pattern.compile("(?m)^x\\.(\\w+)\\(([^)]*)\\); +// (-?\\d+): ");

    public static void main(String[] args) throws IOException, ReflectiveOperationException {
        String readme = Files.readString(Path.of("README.md"));
        example(readme);
        for (Method m : PatternText.class.getDeclaredMethods()) {
            if (Modifier.isPublic(m.getModifiers())) {
                Check.due("is in the table: " + m.getName(), readme.contains("| `" + m.getName() + "(") ? 1 : 0, 1);
            }
        }
        Check.end();
    }

    private static void example(String readme) throws ReflectiveOperationException {
        PatternText x = new PatternText();
        Matcher text = TEXT.matcher(readme);
        Check.due("the example has a text", text.find() ? 1 : 0, 1);
        Check.write(x, text.group(1));
        int calls = 0;
        Matcher call = CALL.matcher(readme);
        while (call.find()) {
            calls++;
            Check.due(call.group().trim(), answer(x, call.group(1), call.group(2)), Long.parseLong(call.group(3)));
        }
        Check.due("calls in the example", calls, 16);
    }

    private static long answer(PatternText x, String name, String arguments) throws ReflectiveOperationException {
        String[] parts = arguments.isEmpty() ? new String[0] : arguments.split(", ");
        Class<?>[] types = new Class<?>[parts.length];
        Object[] values = new Object[parts.length];
        for (int k = 0; k < parts.length; k++) {
            types[k] = int.class;
            values[k] = Integer.valueOf(parts[k]);
        }
        return ((Number) PatternText.class.getMethod(name, types).invoke(x, values)).longValue();
    }
}
