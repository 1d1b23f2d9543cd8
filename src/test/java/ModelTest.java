import java.util.Random;

/** Runs of 512 calls by a fixed seed, wild arguments among them, answered as the plain model answers. */
public final class ModelTest {
    private static final int RUNS = 3000;
    private static final int CALLS = 512;
    private static final int[] EDGES = {Integer.MIN_VALUE, -256, -2, -1, 0, 1, 2, 9, 10, 11, 59, 60, 61, 99, 100, 101, 119, 120, 121, 359, 360, 1799, 1800,
        999999, 1000000, 1000001, Integer.MAX_VALUE};
    private static final String SIGNS = "  ,,019aesxyAZ_\t\u00ff\u0000";

    private final Random random;
    private final PatternText x = new PatternText();
    private final PlainModel model = new PlainModel();
    private int calls = 0;

    private ModelTest(int seed) {
        random = new Random(seed);
    }

    public static void main(String[] args) {
        for (int seed = 0; seed < RUNS; seed++) {
            new ModelTest(seed).run();
        }
        Check.end();
    }

    private void run() {
        while (calls < CALLS) {
            int kind = random.nextInt(26);
            if (kind == 0 || calls == 0) {
                readSome();
            } else if (kind < 4) {
                foretellSome();
            } else {
                callSome(kind);
            }
        }
    }

    private void due(String call, long got, long want) {
        calls++;
        Check.due(call, got, want);
    }

    private void readSome() {
        String text = random.nextInt(8) == 0 ? "" : pattern();
        if (random.nextInt(2) == 0) {
            text = spoiled(text);
        }
        if (random.nextInt(40) == 0) {
            text = text + " ".repeat(random.nextInt(130));
        }
        text = text.substring(0, Math.min(text.length(), CALLS - calls - 1));
        for (int k = 0; k < text.length(); k++) {
            int c = text.charAt(k) + 256 * (random.nextInt(5) - 2);
            x.sign(c);
            model.sign(c);
        }
        calls += text.length();
        due("read() of '" + text + "'", x.read(), model.read());
    }

    private String pattern() {
        StringBuilder b = new StringBuilder("every ");
        b.append(random.nextInt(2) == 0 ? 1 + random.nextInt(9) : 1 + random.nextInt(99));
        b.append(new String[] {" days", " weeks", " months"}[random.nextInt(3)]);
        if (random.nextInt(2) == 0) {
            int often = 1 + random.nextInt(12);
            String between = " skip ";
            for (int m = 0; m < 12; m++) {
                if (random.nextInt(12) < often) {
                    b.append(between).append(m);
                    between = ",";
                }
            }
        }
        if (random.nextInt(2) == 0) {
            b.append(" joined ").append(random.nextInt(3) == 0 ? random.nextInt(101) : 2 + random.nextInt(5));
        }
        if (random.nextInt(2) == 0) {
            b.append(" volume ").append(random.nextInt(3) == 0 ? random.nextInt(101) : 1 + random.nextInt(6));
            b.append(random.nextInt(2) == 0 ? " restart" : "");
        }
        return b.toString();
    }

    private String spoiled(String text) {
        StringBuilder b = new StringBuilder(text);
        int place = random.nextInt(text.length() + 1);
        char c = SIGNS.charAt(random.nextInt(SIGNS.length()));
        switch (random.nextInt(4)) {
            case 0:
                b.insert(place, c);
                break;
            case 1:
                b.setLength(place);
                break;
            case 2:
                b.append(" skip 3");
                break;
            default:
                b.replace(place, Math.min(place + 1, text.length()), random.nextInt(2) == 0 ? "" : String.valueOf(c));
        }
        return b.toString();
    }

    private int day() {
        switch (random.nextInt(12)) {
            case 0:
                return EDGES[random.nextInt(EDGES.length)];
            case 1:
                return 1000000 - random.nextInt(400);
            case 2:
            case 3:
                return random.nextInt(20000);
            default:
                return random.nextInt(400);
        }
    }

    private int small() {
        return random.nextInt(15) == 0 ? EDGES[random.nextInt(EDGES.length)] : random.nextInt(random.nextInt(4) == 0 ? 100 : 12);
    }

    private int one() {
        return random.nextInt(8) == 0 ? small() : random.nextInt(3);
    }

    private void foretellSome() {
        int p = one();
        int d = day();
        if (random.nextInt(2) == 0) {
            int n = random.nextInt(10) == 0 ? EDGES[random.nextInt(EDGES.length)] : 1 + random.nextInt(30);
            due("foretell(" + p + ", " + d + ", " + n + ")", x.foretell(p, d, n), model.foretell(p, d, n));
        } else {
            due("changed(" + p + ", " + d + ")", x.changed(p, d), model.changed(p, d));
        }
        for (int k = 0; k < 6 && calls < CALLS; k++) {
            issueSome(random.nextInt(8));
        }
    }

    private void issueSome(int what) {
        int i = small();
        if (what == 7) {
            int w = small();
            due("issue(" + i + ", " + w + ")", x.issue(i, w), model.issue(i, w));
        } else if (what == 6) {
            due("date(" + i + ")", x.date(i), model.date(i));
        } else {
            due("issue(" + i + ", " + what + ")", x.issue(i, what), model.issue(i, what));
        }
    }

    private void callSome(int kind) {
        int i = small();
        int d = day();
        int p = one();
        switch (kind / 2) {
            case 2:
                due("irregular(" + i + ", " + d + ")", x.irregular(i, d), model.irregular(i, d));
                break;
            case 3:
            case 4:
                due("holiday(" + d + ")", x.holiday(d), model.holiday(d));
                break;
            case 5:
                due("came(" + i + ", " + d + ")", x.came(i, d), model.came(i, d));
                break;
            case 6:
                due("late(" + i + ", " + d + ")", x.late(i, d), model.late(i, d));
                break;
            case 7:
            case 8:
                due("claim(" + d + ", " + i + ")", x.claim(d, i), model.claim(d, i));
                break;
            case 9:
                due("print(" + p + ")", x.print(p), model.print(p));
                break;
            case 10:
                due("at(" + i + ")", x.at(i), model.at(i));
                break;
            case 11:
                yearlySome(p, d);
                break;
            default:
                issueSome(random.nextInt(8));
        }
    }

    private void yearlySome(int p, int d) {
        int each = one();
        String call = "yearly(" + p + ", " + d + ", " + each + ")";
        long got = Long.MIN_VALUE;
        long want = Long.MIN_VALUE;
        try {
            got = x.yearly(p, d, each);
        } catch (ArithmeticException e) {
            Check.due(call + " throws with each 0 alone", each, 0);
        }
        try {
            want = model.yearly(p, d, each);
        } catch (ArithmeticException e) {
            Check.due(call + " is due to throw", got, Long.MIN_VALUE);
        }
        due(call, got, want);
    }
}
