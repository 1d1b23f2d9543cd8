/** Promises 11 and 12: late, claim. */
public final class LateTest {
    public static void main(String[] args) {
        lateOnes();
        claims();
        wrongArguments();
        Check.end();
    }

    private static void lateOnes() {
        PatternText x = Check.with("every 10 days");
        x.foretell(0, 100, 4);
        Check.due("before", x.late(0, 0), 0);
        Check.due("on the day", x.late(0, 100), 0);
        Check.due("a day behind", x.late(0, 101), 1);
        Check.due("at the end", x.late(0, 1000000), 999900);
        x.came(0, 107);
        Check.due("it came late", x.late(0, 500), 7);
        Check.due("it came late, asked before", x.late(0, 0), 7);
        x.came(1, 90);
        Check.due("it came early", x.late(1, 500), 0);
        x.came(2, 120);
        Check.due("it came on the day", x.late(2, 500), 0);
        x.irregular(3, 400);
        Check.due("irregular, before", x.late(3, 399), 0);
        Check.due("irregular, behind", x.late(3, 403), 3);
        x.holiday(100);
        x.foretell(0, 100, 1);
        Check.due("the holiday counts", x.late(0, 105), 4);
    }

    private static void order(PatternText x, int day, int... places) {
        for (int k = 0; k < places.length; k++) {
            Check.due("claim(" + day + ", " + k + ")", x.claim(day, k), places[k]);
        }
        Check.due("claim(" + day + ", " + places.length + ")", x.claim(day, places.length), -1);
    }

    private static void claims() {
        PatternText x = Check.with("every 10 days", "every 1 days");
        x.foretell(0, 0, 6);
        order(x, 0);
        order(x, 1, 0);
        order(x, 10, 0);
        order(x, 11, 0, 1);
        order(x, 1000000, 0, 1, 2, 3, 4, 5);
        x.irregular(1, 45);
        x.irregular(5, 20);
        x.irregular(0, 20);
        order(x, 100, 0, 2, 5, 3, 4, 1);
        x.came(2, 90);
        order(x, 100, 0, 5, 3, 4, 1);
        order(x, 45, 0, 5, 3, 4);
        order(x, 30, 0, 5);
        order(x, 20);
        x.foretell(1, 0, 100);
        Check.due("the last of a hundred", x.claim(1000, 99), 99);
        Check.due("behind it", x.claim(1000, 100), -1);
        for (int i = 0; i < 100; i++) {
            x.irregular(i, 200 - i);
        }
        Check.due("turned round", x.claim(1000, 0), 99);
        Check.due("turned round", x.claim(1000, 99), 0);
    }

    private static void wrongArguments() {
        PatternText x = Check.with("every 10 days");
        x.foretell(0, 0, 2);
        for (int i : new int[] {-1, 2, 100, Integer.MIN_VALUE, Integer.MAX_VALUE}) {
            Check.due("late(" + i + ", 5)", x.late(i, 5), -1);
            Check.due("claim(1000, " + i + ")", x.claim(1000, i), -1);
        }
        for (int day : new int[] {-1, 1000001, Integer.MIN_VALUE, Integer.MAX_VALUE}) {
            Check.due("late(0, " + day + ")", x.late(0, day), -1);
            Check.due("claim(" + day + ", 0)", x.claim(day, 0), -1);
        }
        x.came(0, 3);
        Check.due("late(0, -1), it has come", x.late(0, -1), -1);
    }
}
