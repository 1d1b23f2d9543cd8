import java.io.IOException;
import java.lang.reflect.Constructor;
import java.lang.reflect.Field;
import java.lang.reflect.Method;
import java.lang.reflect.Modifier;
import java.nio.file.Files;
import java.nio.file.Path;
import java.util.HashSet;
import java.util.List;
import java.util.Set;
import java.util.regex.Matcher;
import java.util.regex.Pattern;

/** What can be seen of ../shared/LANGUAGE.md from the text and the shape of the class. */
public final class LanguageTest {
    private static final List<String> LEFT_OUT = List.of("import", "package", "protected", "finally", "try", "catch", "synchronized", "volatile", "assert",
        "instanceof", "System\\.(?!arraycopy\\b)\\w+", "Object", "Thread", "Random", "double", "float", "var", "\\w+Exact", "equals", "hashCode", "toString",
        "getMessage");
    private static final int MOST_LINES = 60;

    public static void main(String[] args) throws IOException {
        String code = withoutComments(Files.readString(Path.of("src/main/java/PatternText.java")));
        words(code);
        exceptions(code);
        lengths(code);
        Class<?>[] inside = PatternText.class.getDeclaredClasses();
        Check.due("rule 11, twelve classes at most", inside.length < 12 ? 1 : 0, 1);
        shape(PatternText.class);
        for (Class<?> c : inside) {
            Check.due("rule 1, static and not public: " + c, c.getModifiers() & (Modifier.STATIC | Modifier.PUBLIC | Modifier.PROTECTED), Modifier.STATIC);
            shape(c);
        }
        Check.end();
    }

    private static String withoutComments(String text) {
        return text.replaceAll("(?s)/\\*.*?\\*/", "").replaceAll("//.*", "");
    }

    private static void words(String code) {
        for (String word : LEFT_OUT) {
            Check.due("rules 2 to 13, the class has " + word, Pattern.compile("\\b" + word + "\\b").matcher(code).find() ? 1 : 0, 0);
        }
        Check.due("rule 2, lambdas and references to methods", code.contains("->") || code.contains("::") ? 1 : 0, 0);
        Check.due("rule 3, signs above 255", code.chars().anyMatch(c -> c > 255) ? 1 : 0, 0);
    }

    /** The document asks for one exception alone, that of yearly. */
    private static void exceptions(String code) {
        int count = 0;
        Matcher m = Pattern.compile("\\bthrow\\b([^;]*);").matcher(code);
        while (m.find()) {
            count++;
            Check.due("rule 6, throw" + m.group(1), m.group(1).matches(" new ArithmeticException\\((\"[^\"]*\")?\\)") ? 1 : 0, 1);
        }
        Check.due("rule 6, throws in the class", count, 1);
    }

    /** A method begins and ends in lines that are four spaces in, or eight in a class inside. */
    private static void lengths(String code) {
        Matcher m = Pattern.compile("(?ms)^( {4}| {8})(?! )[^;={}\n]*\\([^;{}\n]*\\{\n.*?^\\1\\}").matcher(code);
        int methods = 0;
        while (m.find()) {
            methods++;
            long lines = m.group().lines().count();
            Check.due("rule 11, lines at most " + MOST_LINES + ": " + m.group().lines().findFirst().get().trim(), lines <= MOST_LINES ? 1 : 0, 1);
        }
        Check.due("methods are found", methods >= 16 ? 1 : 0, 1);
    }

    private static void shape(Class<?> c) {
        Set<String> open = new HashSet<>();
        for (Method m : PatternText.class.getDeclaredMethods()) {
            if (Modifier.isPublic(m.getModifiers())) {
                open.add(m.getName());
            }
        }
        for (Method m : c.getDeclaredMethods()) {
            Check.due("rule 11, seven parameters at most: " + m, m.getParameterCount() <= 7 ? 1 : 0, 1);
            boolean own = c == PatternText.class && Modifier.isPublic(m.getModifiers());
            Check.due("rule 1, bears the name of a public one: " + m, !own && open.contains(m.getName()) ? 1 : 0, 0);
        }
        for (Constructor<?> k : c.getDeclaredConstructors()) {
            Check.due("rule 11, seven parameters at most: " + k, k.getParameterCount() <= 7 ? 1 : 0, 1);
        }
        int fields = 0;
        for (Field f : c.getDeclaredFields()) {
            boolean isStatic = Modifier.isStatic(f.getModifiers());
            fields += isStatic ? 0 : 1;
            Check.due("rule 5, static and not final: " + f, isStatic && !Modifier.isFinal(f.getModifiers()) ? 1 : 0, 0);
        }
        Check.due("rule 11, twenty fields at most: " + c, fields <= 20 ? 1 : 0, 1);
    }
}
