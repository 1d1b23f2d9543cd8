import java.lang.reflect.Constructor;
import java.lang.reflect.Field;
import java.lang.reflect.Method;
import java.lang.reflect.Modifier;
import java.util.Set;
import java.util.TreeSet;

/** The public face: just the document's constant, constructor and methods. */
public final class FaceTest {
    public static void main(String[] args) {
        Set<String> want = Set.of("public static final int PatternText.NONE", "public PatternText()", "public void PatternText.sign(int)",
            "public int PatternText.read()", "public int PatternText.foretell(int,int,int)", "public int PatternText.changed(int,int)",
            "public int PatternText.issue(int,int)", "public long PatternText.date(int)", "public int PatternText.irregular(int,int)",
            "public int PatternText.holiday(int)", "public int PatternText.came(int,int)", "public int PatternText.late(int,int)",
            "public int PatternText.claim(int,int)", "public int PatternText.print(int)", "public int PatternText.at(int)",
            "public int PatternText.yearly(int,int,int) throws java.lang.ArithmeticException");
        Set<String> got = new TreeSet<>();
        for (Field f : PatternText.class.getDeclaredFields()) {
            addVisible(got, f.getModifiers(), f.toString());
        }
        for (Constructor<?> c : PatternText.class.getDeclaredConstructors()) {
            addVisible(got, c.getModifiers(), c.toString());
        }
        for (Method m : PatternText.class.getDeclaredMethods()) {
            addVisible(got, m.getModifiers(), m.toString());
        }
        for (String g : got) {
            Check.due("is in the document: " + g, want.contains(g) ? 1 : 0, 1);
        }
        for (String w : want) {
            Check.due("is in the class: " + w, got.contains(w) ? 1 : 0, 1);
        }
        Check.due("the class is final", Modifier.isFinal(PatternText.class.getModifiers()) ? 1 : 0, 1);
        Check.end();
    }

    private static void addVisible(Set<String> to, int modifiers, String text) {
        if (!Modifier.isPrivate(modifiers)) {
            to.add(text);
        }
    }
}
