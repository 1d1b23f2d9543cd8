/** Promise 15: yearly. */
public final class YearlyTest {
    public static void main(String[] args) {
        PatternText x = Check.with("every 1 days", "every 1 months skip 0,6", "every 99 months", "every 7 weeks joined 2", "every 12 months skip 3",
            "every 1 days skip 0,1,2,3,4,5,6,7,8,9,10,11", "every 9 days");
        Check.due("each day", x.yearly(0, 0, 1), 360);
        Check.due("each month but two", x.yearly(1, 17, 1), 10);
        Check.due("the first step alone", x.yearly(2, 5, 1), 1);
        Check.due("0, 49, .., 343", x.yearly(3, 0, 1), 8);
        Check.due("360 days behind is too far", x.yearly(4, 0, 1), 1);
        Check.due("the one step is left out", x.yearly(4, 90, 1), 0);
        Check.due("none", x.yearly(5, 0, 1), 0);
        Check.due("none, divided", x.yearly(5, 0, -3), 0);
        Check.due("40 of 9 days", x.yearly(6, 0, 1), 40);
        Check.due("cut", x.yearly(6, 3, 7), 5);
        Check.due("cut towards 0", x.yearly(6, 3, -7), -5);
        Check.due("by more than there are", x.yearly(6, 3, 41), 0);
        Check.due("by the least", x.yearly(6, 3, Integer.MIN_VALUE), 0);
        Check.due("by the most", x.yearly(6, 3, Integer.MAX_VALUE), 0);
        Check.due("by -1", x.yearly(6, 3, -1), -40);
        Check.due("360 days from the last day", x.yearly(6, 1000000, 1), 40);
        x.holiday(351);
        x.holiday(0);
        Check.due("holidays do not matter", x.yearly(6, 0, 1), 40);
        x.foretell(6, 0, 3);
        x.yearly(0, 0, 1);
        Check.dates("the list stays", x, 1, 9, 18);
        wrongArguments(x);
        Check.end();
    }

    private static void wrongArguments(PatternText x) {
        for (int p : new int[] {-1, 7, 10, Integer.MIN_VALUE, Integer.MAX_VALUE}) {
            Check.due("yearly(" + p + ", 0, 1)", x.yearly(p, 0, 1), -1);
            Check.due("yearly(" + p + ", 0, 0)", x.yearly(p, 0, 0), -1);
        }
        for (int day : new int[] {-1, 1000001, Integer.MIN_VALUE, Integer.MAX_VALUE}) {
            Check.due("yearly(0, " + day + ", 1)", x.yearly(0, day, 1), -1);
            Check.due("yearly(0, " + day + ", 0)", x.yearly(0, day, 0), -1);
        }
        Check.due("each 0 throws", throwsArithmetic(x, 0, 0), 1);
        Check.due("each 0 throws, nothing to divide", throwsArithmetic(x, 5, 0), 1);
        Check.due("each 1 throws nothing", throwsArithmetic(x, 5, 1), 0);
    }

    private static int throwsArithmetic(PatternText x, int pattern, int each) {
        try {
            x.yearly(pattern, 0, each);
            return 0;
        } catch (ArithmeticException e) {
            return 1;
        }
    }
}
