/** Promise 15: yearly. */
public final class YearlyTest {
    public static void main(String[] args) {
        PatternText x = Check.with("every 1 days", "every 1 months skip 0,6", "every 99 months", "every 7 weeks joined 2", "every 12 months skip 3",
            "every 1 days skip 0,1,2,3,4,5,6,7,8,9,10,11", "every 9 days");
        Check.due("each day", x.yearly(0, 0, 1), 360);
        Check.due("each month but two", x.yearly(1, 17, 1), 10);
        Check.due("the first step alone", x.yearly(2, 5, 1), 1);
        Check.due("0, 49, .., 343", x.yearly(3, 0, 1), 8);
        Check.due("360 days behind is too far", x.yearly(4, 0, 1), 1);
        Check.due("the one step is left out", x.yearly(4, 90, 1), 0);
        Check.due("none", x.yearly(5, 0, 1), 0);
        Check.due("none, divided", x.yearly(5, 0, -3), 0);
        Check.due("40 of 9 days", x.yearly(6, 0, 1), 40);
        Check.due("cut", x.yearly(6, 3, 7), 5);
        Check.due("cut towards 0", x.yearly(6, 3, -7), -5);
        Check.due("by more than there are", x.yearly(6, 3, 41), 0);
        Check.due("by the least", x.yearly(6, 3, Integer.MIN_VALUE), 0);
        Check.due("by the most", x.yearly(6, 3, Integer.MAX_VALUE), 0);
        Check.due("by -1", x.yearly(6, 3, -1), -40);
        atTheLastDay(x);
        x.holiday(351);
        x.holiday(0);
        Check.due("holidays do not matter", x.yearly(6, 0, 1), 40);
        x.foretell(6, 0, 3);
        x.yearly(0, 0, 1);
        Check.dates("the list stays", x, 1, 9, 18);
        wrongArguments(x);
        Check.end();
    }

    /** Day 1000000 is in month 9, which begins with 999990; 999900 begins month 6. */
    private static void atTheLastDay(PatternText x) {
        Check.due("no issue beyond the last day", x.yearly(0, 1000000, 1), 1);
        Check.due("the last day and the one before", x.yearly(0, 999999, 1), 2);
        Check.due("the first of 360 that all are days", x.yearly(0, 999641, 1), 360);
        Check.due("one of 360 is beyond the last day", x.yearly(0, 999642, 1), 359);
        Check.due("a step on the last day", x.yearly(6, 999991, 1), 2);
        Check.due("a step just beyond the last day", x.yearly(6, 999992, 1), 1);
        Check.due("the month of the last day", x.yearly(1, 999990, 1), 1);
        Check.due("a month left out, then the last three", x.yearly(1, 999900, 1), 3);
        Check.due("all left out up to the last day", x.yearly(5, 1000000, 1), 0);
        Check.due("cut at the last day, then divided", x.yearly(0, 999991, 4), 2);
        Check.due("each 0 throws at the last day too", throwsArithmetic(x, 0, 1000000, 0), 1);
        x.holiday(1000000);
        Check.due("a holiday moves no step", x.yearly(0, 1000000, 1), 1);
    }

    private static void wrongArguments(PatternText x) {
        for (int p : new int[] {-1, 7, 10, Integer.MIN_VALUE, Integer.MAX_VALUE}) {
            Check.due("yearly(" + p + ", 0, 1)", x.yearly(p, 0, 1), -1);
            Check.due("yearly(" + p + ", 0, 0)", x.yearly(p, 0, 0), -1);
        }
        for (int day : new int[] {-1, 1000001, Integer.MIN_VALUE, Integer.MAX_VALUE}) {
            Check.due("yearly(0, " + day + ", 1)", x.yearly(0, day, 1), -1);
            Check.due("yearly(0, " + day + ", 0)", x.yearly(0, day, 0), -1);
        }
        Check.due("each 0 throws", throwsArithmetic(x, 0, 0, 0), 1);
        Check.due("each 0 throws, nothing to divide", throwsArithmetic(x, 5, 0, 0), 1);
        Check.due("each 1 throws nothing", throwsArithmetic(x, 5, 0, 1), 0);
    }

    private static int throwsArithmetic(PatternText x, int pattern, int day, int each) {
        try {
            x.yearly(pattern, day, each);
            return 0;
        } catch (ArithmeticException e) {
            return 1;
        }
    }
}
