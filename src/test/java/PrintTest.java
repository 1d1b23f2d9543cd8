/** Promises 13 and 14: print, at. */
public final class PrintTest {
    public static void main(String[] args) {
        String first = "every 12 months skip 0,11 joined 2 volume 10 restart";
        String second = "every 1 days";
        PatternText x = Check.with(first, second);
        Check.due("at(0), nothing printed", x.at(0), -1);
        printed(x, 0, first);
        printed(x, 1, second);
        for (int p : new int[] {-1, 2, 10, Integer.MIN_VALUE, Integer.MAX_VALUE}) {
            Check.due("print(" + p + ")", x.print(p), 0);
        }
        Check.due("what was printed stays", x.at(11), 's');
        Check.due("and is no longer", x.at(12), -1);
        Check.write(x, "every 5");
        Check.due("collected signs are not printed", x.at(6), '1');
        x.read();
        Check.due("a wrong one is not printed", x.at(6), '1');
        Check.read(x, "every 7 weeks");
        Check.due("nor is one that is read later", x.at(6), '1');
        printed(x, 2, "every 7 weeks");
        printed(x, 0, first);
        Check.end();
    }

    private static void printed(PatternText x, int pattern, String text) {
        Check.due("print(" + pattern + ")", x.print(pattern), text.length());
        for (int k = 0; k < text.length(); k++) {
            Check.due("at(" + k + ")", x.at(k), text.charAt(k));
        }
        for (int i : new int[] {-1, text.length(), 120, Integer.MIN_VALUE, Integer.MAX_VALUE}) {
            Check.due("at(" + i + ")", x.at(i), -1);
        }
    }
}
