/** Promises 2 and 3: signs are collected; what is collected is read as a pattern, or is WRONG at a place. */
public final class ReadTest {
    public static void main(String[] args) {
        right();
        wrongBeginnings();
        wrongNumbers();
        wrongMonths();
        wrongClauses();
        wrongSpaces();
        collecting();
        tenPatterns();
        Check.end();
    }

    private static void right() {
        String[] texts = {"every 1 days", "every 99 weeks", "every 10 months", "every 5 days skip 0", "every 5 days skip 0,1,2,3,4,5,6,7,8,9,10,11",
            "every 5 days joined 2", "every 5 days joined 99 volume 99", "every 5 days volume 1", "every 5 days volume 1 restart",
            "every 99 months skip 0,1,2,3,4,5,6,7,8,9,10,11 joined 99 volume 99 restart"};
        Check.with(texts);
    }

    private static void wrongBeginnings() {
        Check.wrongAt("", 0);
        Check.wrongAt("e", 0);
        Check.wrongAt("ever 5 days", 0);
        Check.wrongAt("Every 5 days", 0);
        Check.wrongAt("everyone 5 days", 0);
        Check.wrongAt(" every 5 days", 0);
        Check.wrongAt("skip 3", 0);
        Check.wrongAt("every", 5);
        Check.wrongAt("every5 days", 5);
        Check.wrongAt("every ", 6);
        Check.wrongAt("every days", 6);
        Check.wrongAt("every 5", 7);
        Check.wrongAt("every 5days", 7);
        Check.wrongAt("every 5,6 days", 7);
        Check.wrongAt("every 5 ", 8);
        Check.wrongAt("every 5 day", 8);
        Check.wrongAt("every 5 daysx", 8);
        Check.wrongAt("every 5 years", 8);
        Check.wrongAt("every 5 week", 8);
        Check.wrongAt("every 5 month", 8);
        Check.wrongAt("every 5 6", 8);
        Check.wrongAt("every 5 days,", 12);
    }

    private static void wrongNumbers() {
        Check.wrongAt("every 0 days", 6);
        Check.wrongAt("every 00 days", 6);
        Check.wrongAt("every 05 days", 6);
        Check.wrongAt("every 100 days", 6);
        Check.wrongAt("every 4294967297 days", 6);
        Check.wrongAt("every 18446744073709551617 days", 6);
        Check.wrongAt("every -5 days", 6);
        Check.wrongAt("every x days", 6);
        Check.wrongAt("every 5 days joined 0", 20);
        Check.wrongAt("every 5 days joined 1", 20);
        Check.wrongAt("every 5 days joined 100", 20);
        Check.wrongAt("every 5 days joined 02", 20);
        Check.wrongAt("every 5 days joined", 19);
        Check.wrongAt("every 5 days joined ", 20);
        Check.wrongAt("every 5 days joined x", 20);
        Check.wrongAt("every 5 days joined 2,3", 21);
        Check.wrongAt("every 5 days volume 0", 20);
        Check.wrongAt("every 5 days volume 100", 20);
        Check.wrongAt("every 5 days volume 07", 20);
        Check.wrongAt("every 5 days volume restart", 20);
        Check.wrongAt("every 5 days volume", 19);
        Check.wrongAt("every 5 days volume 7restart", 21);
    }

    private static void wrongMonths() {
        Check.wrongAt("every 5 days skip", 17);
        Check.wrongAt("every 5 days skip ", 18);
        Check.wrongAt("every 5 days skip joined 2", 18);
        Check.wrongAt("every 5 days skip ,", 18);
        Check.wrongAt("every 5 days skip 12", 18);
        Check.wrongAt("every 5 days skip 00", 18);
        Check.wrongAt("every 5 days skip 01", 18);
        Check.wrongAt("every 5 days skip 3,3", 20);
        Check.wrongAt("every 5 days skip 3,2", 20);
        Check.wrongAt("every 5 days skip 3,04", 20);
        Check.wrongAt("every 5 days skip 3,12", 20);
        Check.wrongAt("every 5 days skip 3,", 20);
        Check.wrongAt("every 5 days skip 3,,4", 20);
        Check.wrongAt("every 5 days skip 3, 4", 20);
        Check.wrongAt("every 5 days skip 3,x", 20);
        Check.wrongAt("every 5 days skip 11,", 21);
        Check.wrongAt("every 5 days skip 11,11", 21);
        Check.wrongAt("every 5 days skip 3.4", 19);
        Check.wrongAt("every 5 days skip 3 ,4", 20);
        Check.wrongAt("every 5 days skip 3 4", 20);
        Check.wrongAt("every 5 days skip 0,1,2,3,4,5,6,7,8,9,10,11,12", 44);
    }

    private static void wrongClauses() {
        Check.wrongAt("every 5 days foo", 13);
        Check.wrongAt("every 5 days days", 13);
        Check.wrongAt("every 5 days restart", 13);
        Check.wrongAt("every 5 days skip 3 skip 4", 20);
        Check.wrongAt("every 5 days skip 3 restart", 20);
        Check.wrongAt("every 5 days joined 2 skip 3", 22);
        Check.wrongAt("every 5 days joined 2 joined 2", 22);
        Check.wrongAt("every 5 days joined 2 restart", 22);
        Check.wrongAt("every 5 days volume 3 joined 2", 22);
        Check.wrongAt("every 5 days volume 3 skip 2", 22);
        Check.wrongAt("every 5 days volume 3 volume 3", 22);
        Check.wrongAt("every 5 days volume 3 restar", 22);
        Check.wrongAt("every 5 days volume 3 restarts", 22);
        Check.wrongAt("every 5 days volume 3 restart restart", 30);
        Check.wrongAt("every 5 days volume 3 restart skip 3", 30);
    }

    private static void wrongSpaces() {
        Check.wrongAt("every  5 days", 6);
        Check.wrongAt("every 5  days", 8);
        Check.wrongAt("every 5 days ", 13);
        Check.wrongAt("every 5 days  skip 3", 13);
        Check.wrongAt("every 5 days skip  3", 18);
        Check.wrongAt("every 5 days skip 3 ", 20);
        Check.wrongAt("every 5 days skip 3  joined 2", 20);
        Check.wrongAt("every 5 days volume 3 ", 22);
        Check.wrongAt("every 5 days\n", 12);
        Check.wrongAt("every\t5 days", 5);
    }

    private static void collecting() {
        PatternText x = new PatternText();
        String text = "every 5 days";
        for (int k = 0; k < text.length(); k++) {
            x.sign(text.charAt(k) + 256 * (k % 2 == 0 ? 7 : -3));
        }
        Check.due("read() of signs with higher bits", x.read(), 0);
        Check.due("print(0)", x.print(0), 12);
        Check.due("at(0)", x.at(0), 'e');
        Check.due("nothing is collected any more", x.read(), -1);
        Check.due("after a wrong one", Check.read(x, "every 5 day"), -9);
        Check.due("nothing is collected after a wrong one", x.read(), -1);
        Check.due("read() of what fits", Check.read(x, text), 1);
        String digits = "1".repeat(150);
        Check.due("a long number", Check.read(x, "every " + digits), -7);
        Check.due("signs beyond 120 are lost, so no space is behind", Check.read(x, "every 5 days" + " ".repeat(130)), -14);
        String blown = "every 5 days skip 0,1,2,3,4,5,6,7,8,9,10,11 joined 99 volume 99 restart";
        Check.due("a full text after long ones", Check.read(x, blown), 2);
        x.sign(-1);
        Check.due("a sign of 255", x.read(), -1);
    }

    private static void tenPatterns() {
        PatternText x = new PatternText();
        for (int k = 0; k < 10; k++) {
            Check.due("read() " + k, Check.read(x, "every " + (k + 1) + " weeks"), k);
        }
        Check.due("the eleventh", Check.read(x, "every 5 days"), -200);
        Check.due("nothing is collected after it", x.read(), -1);
        Check.due("wrong before full", Check.read(x, "every 5 day"), -9);
        Check.due("print(9)", x.print(9), 14);
        Check.due("print(10)", x.print(10), 0);
        Check.due("foretell(9, 0, 2)", x.foretell(9, 0, 2), 2);
        Check.due("date(1)", x.date(1), 70);
        Check.due("foretell(10, 0, 2)", x.foretell(10, 0, 2), -1);
    }
}
