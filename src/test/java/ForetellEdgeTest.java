/** The edges that the document's terms TO FORETELL, NUMBERS, VOLUME and THE LIST name, a method for each sentence. */
public final class ForetellEdgeTest {
    public static void main(String[] args) {
        stepsBeginAtThatDay();
        monthsLeftOut();
        nextDayThatIsNoHoliday();
        eachNthIsDouble();
        doubleIssuesHaveTwoNumbers();
        volumesOfNNumbers();
        volumeOfTheFirstNumber();
        numbersWithinTheVolume();
        lessThan1800DaysBehind();
        thatOneToo();
        beyondTheLastDay();
        movedBeyondTheLastDay();
        atMost100();
        Check.end();
    }

    /** "steps of so many days (a week 7, a month 30) begin at that day" */
    private static void stepsBeginAtThatDay() {
        PatternText x = Check.with("every 5 days", "every 1 weeks", "every 1 months");
        int[] steps = {5, 7, 30};
        for (int day : new int[] {0, 1, 29, 30, 359, 360, 999900}) {
            for (int p = 0; p < 3; p++) {
                x.foretell(p, day, 3);
                Check.dates("pattern " + p + " from " + day, x, day, day + steps[p], day + 2 * steps[p]);
            }
        }
    }

    /** "on each that is not in a month that is left out there is an ISSUE" */
    private static void monthsLeftOut() {
        PatternText x = Check.with("every 29 days skip 1", "every 10 days skip 0,1,2,3,4,5,6,7,8,9,10", "every 1 days skip 0,1,2,3,4,5,6,7,8,9,10,11");
        x.foretell(0, 0, 3);
        Check.dates("29 is in month 0, 58 in month 1, 87 in month 2", x, 0, 29, 87);
        x.foretell(0, 1, 3);
        Check.dates("30 and 59 are in month 1, 88 is in month 2", x, 1, 88, 117);
        Check.issues("what is left out takes no number", x, 0, 1, 2, 3);
        x.foretell(1, 349, 3);
        Check.dates("only month 11 is left, 349 and 359 are in it", x, 349, 359, 699);
        Check.due("all twelve are left out", x.foretell(2, 0, 100), 0);
        Check.dates("then THE LIST is empty", x);
    }

    /** "it EXPECTS that day, or, if that is a HOLIDAY, the next day that is none." */
    private static void nextDayThatIsNoHoliday() {
        PatternText x = Check.with("every 10 days", "every 1 days");
        x.holiday(19);
        x.foretell(0, 0, 4);
        Check.dates("the day before is one", x, 0, 10, 20, 30);
        x.holiday(21);
        x.foretell(0, 0, 4);
        Check.dates("the day behind is one", x, 0, 10, 20, 30);
        x.holiday(20);
        x.foretell(0, 0, 4);
        Check.dates("the day and the next are", x, 0, 10, 22, 30);
        x.holiday(23);
        x.foretell(0, 0, 4);
        Check.dates("one behind a gap does not matter", x, 0, 10, 22, 30);
        x.holiday(22);
        x.foretell(0, 0, 4);
        Check.dates("the gap is closed", x, 0, 10, 24, 30);
        x.foretell(1, 18, 4);
        Check.dates("steps do not move with it", x, 18, 24, 24, 24);
        PatternText y = Check.with("every 1 days");
        for (int day = 159; day >= 100; day--) {
            y.holiday(day);
        }
        y.foretell(0, 99, 4);
        Check.dates("sixty in a row", y, 99, 160, 160, 160);
        y.foretell(0, 159, 2);
        Check.dates("the last of sixty", y, 160, 160);
    }

    /** "The issues 1, 2, ..: each N-th one is double, if they are joined." */
    private static void eachNthIsDouble() {
        PatternText x = Check.with("every 1 days", "every 1 days joined 2", "every 1 days joined 99", "every 1 days joined 3");
        x.foretell(0, 0, 4);
        Check.issues("not joined", x, 1, 1, 1, 1, 1);
        x.foretell(1, 0, 5);
        Check.issues("joined 2", x, 1, 1, 2, 1, 2, 1);
        x.foretell(3, 0, 2);
        Check.issues("joined 3, two issues", x, 1, 1, 1);
        x.foretell(3, 0, 3);
        Check.issues("joined 3, three issues", x, 1, 1, 1, 2);
        x.foretell(2, 0, 100);
        for (int i = 0; i < 100; i++) {
            Check.due("joined 99, issue " + i, x.issue(i, 1), i == 98 ? 2 : 1);
        }
        Check.due("the 98th's number", x.issue(97, 0), 98);
        Check.due("the 99th's numbers", x.issue(98, 0), 99);
        Check.due("the 99th's second", x.issue(98, 3), 100);
        Check.due("the 100th's number", x.issue(99, 0), 101);
        Check.due("the 100th's second", x.issue(99, 3), 0);
    }

    /** "NUMBERS go from 1 on, a double issue has two." */
    private static void doubleIssuesHaveTwoNumbers() {
        PatternText x = Check.with("every 1 days joined 2");
        x.foretell(0, 0, 1);
        Check.issues("the first one", x, 0, 1);
        x.foretell(0, 0, 100);
        for (int i = 0; i < 100; i++) {
            int number = 1 + i / 2 * 3 + i % 2;
            Check.due("number of " + i, x.issue(i, 0), number);
            Check.due("second number of " + i, x.issue(i, 3), i % 2 == 1 ? number + 1 : 0);
        }
        x.foretell(0, 0, 3);
        Check.issues("from 1 on again", x, 0, 1, 2, 4);
    }

    /** "VOLUME: numbers 1 .. N make volume 1, the next N volume 2, and so on (without volumes: 0)" */
    private static void volumesOfNNumbers() {
        PatternText x = Check.with("every 1 days", "every 1 days volume 1", "every 1 days volume 3", "every 1 days volume 99");
        x.foretell(0, 0, 4);
        Check.issues("without volumes", x, 2, 0, 0, 0, 0);
        x.foretell(1, 0, 4);
        Check.issues("volume 1", x, 2, 1, 2, 3, 4);
        x.foretell(2, 0, 7);
        Check.issues("volume 3", x, 2, 1, 1, 1, 2, 2, 2, 3);
        Check.issues("volume 3, numbers go on", x, 0, 1, 2, 3, 4, 5, 6, 7);
        x.foretell(3, 0, 100);
        Check.due("volume 99, number 1", x.issue(0, 2), 1);
        Check.due("volume 99, number 99", x.issue(98, 2), 1);
        Check.due("volume 99, number 100", x.issue(99, 2), 2);
        Check.due("volume 99, number 100 as told", x.issue(99, 0), 100);
    }

    /** "an issue belongs to that of its first number" */
    private static void volumeOfTheFirstNumber() {
        PatternText x = Check.with("every 1 days joined 2 volume 2", "every 1 days joined 2 volume 3", "every 1 days joined 2 volume 1");
        x.foretell(0, 0, 5);
        Check.issues("2 and 3 begin in volume 1, 5 and 6 in volume 3", x, 2, 1, 1, 2, 3, 4);
        Check.issues("second numbers without restart", x, 3, 0, 3, 0, 6, 0);
        x.foretell(1, 0, 5);
        Check.issues("2 and 3 fill volume 1", x, 2, 1, 1, 2, 2, 3);
        x.foretell(2, 0, 5);
        Check.issues("each number is a volume", x, 2, 1, 2, 4, 5, 7);
    }

    /** "if they restart, its number is told within the volume (a double one that goes on into the next volume has the second number 1)" */
    private static void numbersWithinTheVolume() {
        PatternText x = Check.with("every 1 days joined 2 volume 2 restart", "every 1 days joined 2 volume 3 restart", "every 1 days volume 1 restart",
            "every 1 days joined 99 volume 99 restart");
        x.foretell(0, 0, 5);
        Check.issues("2 and 1 of the next volume", x, 0, 1, 2, 2, 1, 1);
        Check.issues("2 and 1 of the next volume", x, 3, 0, 1, 0, 2, 0);
        x.foretell(1, 0, 5);
        Check.issues("2 and 3 of the same volume", x, 0, 1, 2, 1, 2, 1);
        Check.issues("2 and 3 of the same volume", x, 3, 0, 3, 0, 3, 0);
        x.foretell(2, 0, 3);
        Check.issues("always 1", x, 0, 1, 1, 1);
        x.foretell(3, 0, 100);
        Check.due("the 99th", x.issue(98, 0), 99);
        Check.due("its second", x.issue(98, 3), 1);
        Check.due("its volume", x.issue(98, 2), 1);
        Check.due("the 100th", x.issue(99, 0), 2);
        Check.due("its volume", x.issue(99, 2), 2);
    }

    /**
     * "It ends if there is no issue on any step less than 1800 days behind the one that would come next". No
     * pattern has its next issue 1793 to 1805 days behind: 1800 days are five years, so that step is left out, too.
     */
    private static void lessThan1800DaysBehind() {
        PatternText x = Check.with("every 32 weeks skip 0,1,2,4,5,7,8,10", "every 86 weeks skip 1,4,8", "every 64 weeks skip 3,5,8,11",
            "every 60 months skip 0", "every 59 months skip 0", "every 61 months skip 0");
        Check.due("1792 days behind the first step", x.foretell(0, 0, 1), 1);
        Check.dates("1792 days behind the first step", x, 1792);
        Check.due("1806 days behind the first step", x.foretell(1, 626, 1), 0);
        Check.due("1792 days behind the step that would come next", x.foretell(2, 2, 2), 2);
        Check.dates("1792 days behind 450, which would come next", x, 2, 2242);
        Check.due("1806 days behind the step that would come next", x.foretell(1, 24, 2), 1);
        Check.dates("626 would come next, but nothing before 2432", x, 24);
        Check.due("1770 days behind", x.foretell(4, 0, 1), 1);
        Check.dates("1770 days behind", x, 1770);
        Check.due("1800 days behind", x.foretell(3, 0, 1), 0);
        Check.due("1830 days behind", x.foretell(5, 0, 1), 0);
    }

    /** "(that one, too)": steps of 1800 days and more, where no other is near enough. */
    private static void thatOneToo() {
        PatternText x = Check.with("every 60 months skip 0", "every 99 months skip 0");
        Check.due("the first step is in month 1", x.foretell(0, 59, 3), 3);
        Check.dates("the first step is in month 1", x, 59, 1859, 3659);
        Check.due("the first step is in month 0", x.foretell(0, 29, 3), 0);
        Check.due("months 3, 6, 9, then 0", x.foretell(1, 90, 9), 3);
        Check.dates("months 3, 6, 9, then 0", x, 90, 3060, 6030);
    }

    /** "or beyond the last day" */
    private static void beyondTheLastDay() {
        PatternText x = Check.with("every 10 days", "every 1 days skip 9", "every 1 days skip 8", "every 99 months");
        Check.due("a step on the last day", x.foretell(0, 999990, 3), 2);
        Check.dates("a step on the last day", x, 999990, 1000000);
        Check.due("a step just behind it", x.foretell(0, 999991, 3), 1);
        Check.dates("a step just behind it", x, 999991);
        Check.due("the month up to the last day is left out", x.foretell(1, 999989, 3), 1);
        Check.due("the month before that is left out", x.foretell(2, 999960, 100), 11);
        Check.due("2970 days before the last day", x.foretell(3, 997030, 3), 2);
        Check.due("2969 days before the last day", x.foretell(3, 997031, 3), 1);
    }

    /** "(also if a HOLIDAY moves it there)" */
    private static void movedBeyondTheLastDay() {
        PatternText x = Check.with("every 1 days", "every 2 days");
        x.holiday(999999);
        Check.due("moved to the last day", x.foretell(0, 999998, 9), 3);
        Check.dates("moved to the last day", x, 999998, 1000000, 1000000);
        x.holiday(1000000);
        Check.due("moved beyond it", x.foretell(0, 999998, 9), 1);
        Check.dates("moved beyond it", x, 999998);
        Check.due("the first one is moved beyond it", x.foretell(1, 999999, 9), 0);
        Check.dates("then THE LIST is empty", x);
    }

    /** "THE LIST is what was foretold latest, 100 issues at most." */
    private static void atMost100() {
        PatternText x = Check.with("every 1 days", "every 2 days");
        Check.due("99", x.foretell(0, 0, 99), 99);
        Check.due("place 98", x.date(98), 98);
        Check.due("place 99", x.date(99), -1);
        Check.due("100", x.foretell(0, 0, 100), 100);
        Check.due("place 99", x.date(99), 99);
        Check.due("place 100", x.date(100), -1);
        Check.due("101", x.foretell(0, 0, 101), -1);
        Check.due("place 99 stays", x.date(99), 99);
        Check.due("all 100 are changed", x.changed(1, 0), 100);
        Check.due("place 99", x.date(99), 198);
        Check.due("place 100", x.date(100), -1);
        Check.due("a shorter one", x.foretell(0, 50, 2), 2);
        Check.dates("nothing is left of the one before", x, 50, 51);
    }
}
