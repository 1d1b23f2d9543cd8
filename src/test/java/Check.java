/** What all tests share: telling wrong answers, and feeding texts to an object. */
final class Check {
    private static int wrong = 0;

    private Check() {
    }

    static void due(String call, long got, long want) {
        if (got != want) {
            wrong++;
            System.out.println(call + " answered " + got + ", due is " + want);
        }
    }

    static void write(PatternText x, String text) {
        for (int k = 0; k < text.length(); k++) {
            x.sign(text.charAt(k));
        }
    }

    static int read(PatternText x, String text) {
        write(x, text);
        return x.read();
    }

    static PatternText with(String... texts) {
        PatternText x = new PatternText();
        for (int k = 0; k < texts.length; k++) {
            due("read() of " + texts[k], read(x, texts[k]), k);
        }
        return x;
    }

    static void dates(String call, PatternText x, long... want) {
        for (int k = 0; k < want.length; k++) {
            due(call + ", date(" + k + ")", x.date(k), want[k]);
        }
        due(call + ", date behind the last", x.date(want.length), PatternText.NONE);
    }

    /** One thing told of all issues of the list. */
    static void issues(String call, PatternText x, int what, int... want) {
        for (int k = 0; k < want.length; k++) {
            due(call + ", issue(" + k + ", " + what + ")", x.issue(k, what), want[k]);
        }
        due(call + ", issue behind the last", x.issue(want.length, what), PatternText.NONE);
    }

    /** A text that is a pattern, to a new object. */
    static void fits(String text) {
        due("read() of '" + text + "'", read(new PatternText(), text), 0);
    }

    /** A text that is WRONG at a place, to a new object. */
    static void wrongAt(String text, int place) {
        due("read() of '" + text + "'", read(new PatternText(), text), -1 - place);
    }

    static void same(String call, String got, String want) {
        if (!got.equals(want)) {
            wrong++;
            System.out.println(call + " left " + got + ", due is " + want);
        }
    }

    /** All that can be asked of the list, and of its issues' lateness on a day, without changing anything. */
    static String state(PatternText x, int day) {
        StringBuilder b = new StringBuilder();
        for (int i = 0; x.date(i) != PatternText.NONE; i++) {
            b.append(i).append(" expects ").append(x.date(i)).append(':');
            for (int what = 0; what <= 5; what++) {
                b.append(' ').append(x.issue(i, what));
            }
            b.append(" late ").append(x.late(i, day)).append("; ");
        }
        return b.toString();
    }

    static void end() {
        System.out.println(wrong == 0 ? "all answers are as due" : wrong + " answers are not as due");
        if (wrong != 0) {
            System.exit(1);
        }
    }
}
