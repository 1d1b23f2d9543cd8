/** Promises 6 to 10: issue, date, irregular, holiday, came. */
public final class IssuesTest {
    public static void main(String[] args) {
        wrongIssues();
        irregularOnes();
        holidays();
        sixtyHolidays();
        comeOnes();
        Check.end();
    }

    private static void wrongIssues() {
        PatternText x = Check.with("every 10 days");
        x.foretell(0, 0, 3);
        for (int i : new int[] {-1, 3, 100, Integer.MIN_VALUE, Integer.MAX_VALUE}) {
            for (int what = 0; what <= 5; what++) {
                Check.due("issue(" + i + ", " + what + ")", x.issue(i, what), -1);
            }
            Check.due("date(" + i + ")", x.date(i), -1);
            Check.due("irregular(" + i + ", 1)", x.irregular(i, 1), 0);
            Check.due("came(" + i + ", 1)", x.came(i, 1), 0);
        }
        for (int what : new int[] {-1, 6, Integer.MIN_VALUE, Integer.MAX_VALUE}) {
            Check.due("issue(0, " + what + ")", x.issue(0, what), -1);
        }
        x.foretell(0, 0, 1);
        Check.due("issue(1, 0) of a shorter list", x.issue(1, 0), -1);
        Check.due("date(1) of a shorter list", x.date(1), -1);
    }

    private static void irregularOnes() {
        PatternText x = Check.with("every 10 days");
        x.holiday(77);
        x.foretell(0, 0, 3);
        Check.due("irregular(1, 1000000)", x.irregular(1, 1000000), 1);
        Check.dates("the last day", x, 0, 1000000, 20);
        Check.due("irregular(1, 0)", x.irregular(1, 0), 1);
        Check.dates("the first day", x, 0, 0, 20);
        Check.due("irregular(1, 77)", x.irregular(1, 77), 1);
        Check.dates("a holiday is a day that was told", x, 0, 77, 20);
        Check.due("the same day again", x.irregular(1, 77), 1);
        Check.due("irregular(1, -1)", x.irregular(1, -1), 0);
        Check.due("irregular(1, 1000001)", x.irregular(1, 1000001), 0);
        x.came(1, 5);
        Check.due("irregular of what has come", x.irregular(1, 8), 0);
        Check.dates("nothing changed", x, 0, 77, 20);
        x.foretell(0, 0, 3);
        Check.dates("a new list has regular days", x, 0, 10, 20);
        Check.due("irregular in a new list", x.irregular(1, 8), 1);
    }

    private static void holidays() {
        PatternText x = Check.with("every 10 days", "every 10 days skip 1", "every 1 days");
        x.foretell(0, 0, 3);
        Check.due("holiday(10)", x.holiday(10), 1);
        Check.dates("not for what was foretold", x, 0, 10, 20);
        Check.due("holiday(10) again", x.holiday(10), 0);
        Check.due("holiday(-1)", x.holiday(-1), 0);
        Check.due("holiday(1000001)", x.holiday(1000001), 0);
        Check.due("holiday(12)", x.holiday(12), 2);
        Check.due("holiday(0)", x.holiday(0), 3);
        Check.due("holiday(1000000)", x.holiday(1000000), 4);
        Check.due("holiday(1000000) again", x.holiday(1000000), 0);
        x.foretell(0, 0, 3);
        Check.dates("moved", x, 1, 11, 20);
        Check.due("holiday(11)", x.holiday(11), 5);
        Check.due("holiday(12) again", x.holiday(12), 0);
        x.foretell(0, 0, 3);
        Check.dates("moved over three", x, 1, 13, 20);
        x.foretell(2, 9, 6);
        Check.dates("several on one day", x, 9, 13, 13, 13, 13, 14);
        x.holiday(29);
        x.foretell(1, 19, 3);
        Check.dates("moved into a month that is left out", x, 19, 30, 69);
    }

    private static void sixtyHolidays() {
        PatternText x = Check.with("every 1 days");
        for (int k = 0; k < 60; k++) {
            int day = 100 + k * 37 % 60;
            Check.due("holiday " + k, x.holiday(day), k + 1);
        }
        Check.due("one more", x.holiday(50), 0);
        x.foretell(0, 100, 2);
        Check.dates("moved over sixty", x, 160, 160);
        x.foretell(0, 49, 2);
        Check.dates("one more is none", x, 49, 50);
    }

    private static void comeOnes() {
        PatternText x = Check.with("every 10 days");
        x.foretell(0, 0, 4);
        Check.issues("none has come", x, 5, 0, 0, 0, 0);
        Check.due("came(1, -1)", x.came(1, -1), 0);
        Check.due("came(1, 1000001)", x.came(1, 1000001), 0);
        Check.due("came(1, 0)", x.came(1, 0), 1);
        Check.due("came(1, 0) again", x.came(1, 0), 0);
        Check.due("came(2, 1000000)", x.came(2, 1000000), 1);
        Check.issues("two have come", x, 5, 0, 1, 1, 0);
        Check.dates("days that are expected stay", x, 0, 10, 20, 30);
        x.foretell(0, 0, 4);
        Check.issues("a new list", x, 5, 0, 0, 0, 0);
    }
}
