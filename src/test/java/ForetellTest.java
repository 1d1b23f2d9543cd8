/** Promise 4, and the terms TO FORETELL, NUMBERS and VOLUME. */
public final class ForetellTest {
    public static void main(String[] args) {
        steps();
        wrongArguments();
        leftOutMonths();
        endsWithoutIssues();
        lastDay();
        joinedAndVolumes();
        Check.end();
    }

    private static void steps() {
        PatternText x = Check.with("every 3 days", "every 2 weeks", "every 4 months");
        Check.due("days", x.foretell(0, 7, 3), 3);
        Check.dates("days", x, 7, 10, 13);
        Check.due("weeks", x.foretell(1, 0, 3), 3);
        Check.dates("weeks", x, 0, 14, 28);
        Check.due("months", x.foretell(2, 5, 4), 4);
        Check.dates("months", x, 5, 125, 245, 365);
        Check.issues("months", x, 4, 2, 2, 2, 2);
        Check.due("100 issues", x.foretell(0, 0, 100), 100);
        Check.due("the last of them", x.date(99), 297);
        Check.due("its number", x.issue(99, 0), 100);
        Check.due("one issue", x.foretell(0, 1, 1), 1);
        Check.dates("one issue", x, 1);
    }

    private static void wrongArguments() {
        PatternText x = Check.with("every 3 days");
        x.foretell(0, 7, 3);
        int[][] calls = {{-1, 0, 1}, {1, 0, 1}, {10, 0, 1}, {Integer.MIN_VALUE, 0, 1}, {Integer.MAX_VALUE, 0, 1}, {0, -1, 1}, {0, 1000001, 1},
            {0, Integer.MIN_VALUE, 1}, {0, Integer.MAX_VALUE, 1}, {0, 0, 0}, {0, 0, -1}, {0, 0, 101}, {0, 0, Integer.MAX_VALUE}, {0, 0, Integer.MIN_VALUE}};
        for (int[] c : calls) {
            Check.due("foretell(" + c[0] + ", " + c[1] + ", " + c[2] + ")", x.foretell(c[0], c[1], c[2]), -1);
        }
        Check.dates("the list stays", x, 7, 10, 13);
    }

    private static void leftOutMonths() {
        PatternText x = Check.with("every 10 days skip 1,11", "every 1 months skip 0,2");
        x.foretell(0, 15, 4);
        Check.dates("month 1 is left out", x, 15, 25, 65, 75);
        x.foretell(0, 320, 3);
        Check.dates("month 11 is left out, day 330 to 359", x, 320, 360, 370);
        x.foretell(0, 30, 2);
        Check.dates("the first step is left out", x, 60, 70);
        x.foretell(1, 29, 4);
        Check.dates("months by the day", x, 59, 119, 149, 179);
        Check.issues("numbers leave nothing out", x, 0, 1, 2, 3, 4);
    }

    private static void endsWithoutIssues() {
        PatternText x = Check.with("every 1 days skip 0,1,2,3,4,5,6,7,8,9,10,11", "every 99 months skip 0", "every 61 months skip 0", "every 59 months skip 1",
            "every 12 months skip 3", "every 13 months skip 1,2,3,4,5", "every 1 days skip 0,1,2,3,4,5,6,7,8,9,10");
        x.foretell(1, 30, 2);
        Check.due("no month has issues", x.foretell(0, 0, 5), 0);
        Check.due("the list is empty then", x.date(0), -1);
        Check.due("a step of 2970 days is looked at alone", x.foretell(1, 0, 5), 0);
        Check.due("it ends at the one in month 0", x.foretell(1, 90, 5), 3);
        Check.dates("it ends at the one in month 0", x, 90, 3060, 6030);
        Check.due("1830 days behind is too far", x.foretell(2, 5, 5), 0);
        Check.due("1770 days behind is near enough", x.foretell(3, 30, 2), 2);
        Check.dates("1770 days behind is near enough", x, 1800, 3570);
        Check.due("always the month that is left out", x.foretell(4, 90, 5), 0);
        Check.due("never that month", x.foretell(4, 89, 3), 3);
        Check.due("four steps are left out, the fifth is 1560 days behind", x.foretell(5, 60, 3), 3);
        Check.dates("four steps are left out", x, 1620, 2010, 2400);
        Check.due("five steps are left out, the sixth is 1950 days behind", x.foretell(5, 30, 3), 0);
        Check.due("it ends behind issues, too", x.foretell(5, 180, 100), 7);
        Check.due("one month a year", x.foretell(6, 0, 31), 31);
        Check.due("one month a year, the first", x.date(0), 330);
        Check.due("one month a year, the next year's first", x.date(30), 690);
    }

    private static void lastDay() {
        PatternText x = Check.with("every 10 days", "every 1 days skip 9");
        Check.due("two fit", x.foretell(0, 999985, 5), 2);
        Check.dates("two fit", x, 999985, 999995);
        Check.due("the last day itself", x.foretell(0, 1000000, 5), 1);
        Check.dates("the last day itself", x, 1000000);
        Check.due("the last day as a second step", x.foretell(0, 999990, 5), 2);
        Check.due("the month of the last days is left out", x.foretell(1, 999999, 100), 0);
        Check.due("a holiday", x.holiday(1000000), 1);
        Check.due("moved beyond the last day", x.foretell(0, 999990, 5), 1);
        Check.due("none at all", x.foretell(0, 1000000, 5), 0);
        Check.due("the list is empty", x.date(0), -1);
        x.holiday(999998);
        x.holiday(999999);
        Check.due("moved over three", x.foretell(0, 999988, 5), 1);
        Check.dates("moved over three", x, 999988);
    }

    private static void joinedAndVolumes() {
        PatternText x = Check.with("every 2 weeks joined 3 volume 5 restart", "every 1 days joined 2 volume 2", "every 1 days joined 2",
            "every 1 days joined 2 volume 1 restart", "every 1 days volume 3 restart", "every 1 days joined 3 volume 3 restart");
        x.foretell(0, 0, 8);
        Check.issues("joined 3 volume 5 restart", x, 0, 1, 2, 3, 5, 1, 2, 4, 5);
        Check.issues("joined 3 volume 5 restart", x, 1, 1, 1, 2, 1, 1, 2, 1, 1);
        Check.issues("joined 3 volume 5 restart", x, 2, 1, 1, 1, 1, 2, 2, 2, 2);
        Check.issues("joined 3 volume 5 restart", x, 3, 0, 0, 4, 0, 0, 3, 0, 0);
        x.foretell(1, 0, 5);
        Check.issues("joined 2 volume 2", x, 0, 1, 2, 4, 5, 7);
        Check.issues("joined 2 volume 2", x, 1, 1, 2, 1, 2, 1);
        Check.issues("joined 2 volume 2", x, 2, 1, 1, 2, 3, 4);
        Check.issues("joined 2 volume 2", x, 3, 0, 3, 0, 6, 0);
        x.foretell(2, 0, 4);
        Check.issues("joined 2", x, 0, 1, 2, 4, 5);
        Check.issues("joined 2", x, 2, 0, 0, 0, 0);
        Check.issues("joined 2", x, 3, 0, 3, 0, 6);
        x.foretell(3, 0, 4);
        Check.issues("joined 2 volume 1 restart", x, 0, 1, 1, 1, 1);
        Check.issues("joined 2 volume 1 restart", x, 2, 1, 2, 4, 5);
        Check.issues("joined 2 volume 1 restart", x, 3, 0, 1, 0, 1);
        x.foretell(4, 0, 7);
        Check.issues("volume 3 restart", x, 0, 1, 2, 3, 1, 2, 3, 1);
        Check.issues("volume 3 restart", x, 1, 1, 1, 1, 1, 1, 1, 1);
        Check.issues("volume 3 restart", x, 2, 1, 1, 1, 2, 2, 2, 3);
        x.foretell(5, 0, 4);
        Check.issues("a double one goes on into the next volume", x, 0, 1, 2, 3, 2);
        Check.issues("a double one goes on into the next volume", x, 2, 1, 1, 1, 2);
        Check.issues("a double one goes on into the next volume", x, 3, 0, 0, 1, 0);
    }
}
