/** The edges that the document's terms DAYS, MONTH, YEAR and PATTERN name, a method for each sentence, both sides of each edge. */
public final class TextEdgeTest {
    private static final String FULL = "every 12 weeks skip 0,11 joined 2 volume 10 restart";
    private static final String ALL_MONTHS = "0,1,2,3,4,5,6,7,8,9,10,11";

    public static void main(String[] args) {
        daysOfEachCall();
        monthsAndYears();
        patternsAsTheyCome();
        oneSpaceBetween();
        howOften();
        unitsOfDays();
        inThisOrder();
        monthsFrom0To11();
        monthsGoingUp();
        joinedFrom2To99();
        volumeFrom1To99();
        restartBehindVolume();
        noZeroInFront();
        theEndIsWrong();
        theFirstSignThatDoesNotFit();
        wordsAndNumbersAtTheirFirstSign();
        Check.end();
    }

    /** "DAYS are 0 .. 1000000": for each call that takes one. */
    private static void daysOfEachCall() {
        for (int day : new int[] {0, 1, 999999, 1000000}) {
            PatternText x = Check.with("every 1 days");
            Check.due("foretell from " + day, x.foretell(0, day, 1), 1);
            Check.due("date of it", x.date(0), day);
            Check.due("changed from " + day, x.changed(0, day), 1);
            Check.due("irregular on " + day, x.irregular(0, day), 1);
            Check.due("late on " + day, x.late(0, day), 0);
            Check.due("came on " + day, x.came(0, day), 1);
            Check.due("holiday on " + day, x.holiday(day), 1);
            Check.due("yearly from " + day, x.yearly(0, day, 1), Math.min(360, 1000001 - day));
            x.foretell(0, 0, 1);
            x.irregular(0, 0);
            Check.due("claim on " + day, x.claim(day, 0), day == 0 ? -1 : 0);
        }
        for (int day : new int[] {-1, 1000001, Integer.MIN_VALUE, Integer.MAX_VALUE}) {
            PatternText x = Check.with("every 1 days");
            x.foretell(0, 0, 2);
            String before = Check.state(x, 1000000);
            Check.due("foretell from " + day, x.foretell(0, day, 1), -1);
            Check.due("changed from " + day, x.changed(0, day), -1);
            Check.due("irregular on " + day, x.irregular(0, day), 0);
            Check.due("late on " + day, x.late(0, day), -1);
            Check.due("came on " + day, x.came(0, day), 0);
            Check.due("claim on " + day, x.claim(day, 0), -1);
            Check.due("yearly from " + day, x.yearly(0, day, 1), -1);
            Check.due("holiday on " + day, x.holiday(day), 0);
            Check.same("refused days", Check.state(x, 1000000), before);
            Check.due("the first holiday behind a refused one", x.holiday(5), 1);
        }
    }

    /** "a MONTH has 30, a YEAR 12 months: a day's month is its number divided by 30, cut, modulo 12." */
    private static void monthsAndYears() {
        for (int month = 0; month < 12; month++) {
            PatternText x = Check.with("every 1 days skip " + month);
            int first = 360 + month * 30;
            x.foretell(0, first - 1, 2);
            Check.dates("over month " + month, x, first - 1, first + 30);
            x.foretell(0, first, 1);
            Check.dates("the first day of month " + month, x, first + 30);
            x.foretell(0, first + 29, 1);
            Check.dates("the last day of month " + month, x, first + 30);
        }
        PatternText x = Check.with("every 1 days skip 0", "every 1 days skip 9", "every 1 days skip 8,10");
        x.foretell(0, 0, 1);
        Check.dates("month 0 begins with day 0", x, 30);
        x.foretell(0, 359, 2);
        Check.dates("month 0 comes again behind day 359", x, 359, 390);
        Check.due("day 1000000 is in month 9", x.foretell(1, 1000000, 1), 0);
        Check.due("month 9 begins with day 999990", x.foretell(1, 999989, 2), 1);
        Check.due("and is neither month 8 nor 10", x.foretell(2, 999990, 11), 11);
    }

    /** "A PATTERN, 0 .. 9 as they come" */
    private static void patternsAsTheyCome() {
        PatternText x = new PatternText();
        for (int k = 0; k < 10; k++) {
            Check.due("print before it is there", x.print(k), 0);
            Check.due("pattern " + k, Check.read(x, "every " + (k + 1) + " days"), k);
            Check.due("print when it is there", x.print(k), k < 9 ? 12 : 13);
        }
        Check.due("pattern -1", x.print(-1), 0);
        Check.due("pattern 10", x.print(10), 0);
        for (int k = 0; k < 10; k++) {
            x.foretell(k, 0, 2);
            Check.dates("pattern " + k, x, 0, k + 1);
        }
    }

    /** "a text of words with one space between": none, one, two of them, at each place where one is due. */
    private static void oneSpaceBetween() {
        Check.fits(FULL);
        for (int k = 0; k < FULL.length(); k++) {
            if (FULL.charAt(k) == ' ') {
                Check.wrongAt(FULL.substring(0, k) + " " + FULL.substring(k), k + 1);
            }
        }
        Check.wrongAt(" " + FULL, 0);
        Check.wrongAt(FULL + " ", FULL.length() + 1);
        Check.wrongAt("every12 weeks", 5);
        Check.wrongAt("every 12weeks", 8);
        Check.wrongAt("every 12 weeksskip 0", 9);
        Check.wrongAt("every 12 weeks skip0", 19);
        Check.wrongAt("every 12 weeks skip 0joined 2", 21);
        Check.wrongAt("every 12 weeks joined2", 21);
        Check.wrongAt("every 12 weeks joined 2volume 3", 23);
        Check.wrongAt("every 12 weeks volume3", 21);
        Check.wrongAt("every 12 weeks volume 3restart", 23);
    }

    /** "N of every is 1 .. 99." */
    private static void howOften() {
        for (String unit : new String[] {"days", "weeks", "months"}) {
            Check.wrongAt("every 0 " + unit, 6);
            Check.fits("every 1 " + unit);
            Check.fits("every 9 " + unit);
            Check.fits("every 10 " + unit);
            Check.fits("every 99 " + unit);
            Check.wrongAt("every 100 " + unit, 6);
            Check.wrongAt("every 999 " + unit, 6);
            Check.wrongAt("every -1 " + unit, 6);
            Check.wrongAt("every 2147483648 " + unit, 6);
            Check.wrongAt("every 4294967301 " + unit, 6);
            Check.wrongAt("every 18446744073709551621 " + unit, 6);
        }
    }

    /** "every N days (or weeks, or months)" and "(a week 7, a month 30)", by the least N and the greatest. */
    private static void unitsOfDays() {
        PatternText x = Check.with("every 1 days", "every 99 days", "every 1 weeks", "every 99 weeks", "every 1 months", "every 99 months");
        int[] steps = {1, 99, 7, 693, 30, 2970};
        for (int k = 0; k < steps.length; k++) {
            x.foretell(k, 0, 3);
            Check.dates("pattern " + k, x, 0, steps[k], 2 * steps[k]);
        }
        Check.wrongAt("every 1 day", 8);
        Check.wrongAt("every 1 week", 8);
        Check.wrongAt("every 1 month", 8);
        Check.wrongAt("every 1 years", 8);
        Check.wrongAt("every 1 dayss", 8);
        Check.wrongAt("every 1 Days", 8);
    }

    /** "then, of these in this order, what there is": each of them or not, then each two the other way round, then each one twice. */
    private static void inThisOrder() {
        String[] clauses = {" skip 3", " joined 2", " volume 4"};
        for (int set = 0; set < 8; set++) {
            StringBuilder text = new StringBuilder("every 5 days");
            for (int k = 0; k < 3; k++) {
                text.append((set >> k & 1) == 1 ? clauses[k] : "");
            }
            Check.fits(text.toString());
        }
        for (int later = 0; later < 3; later++) {
            for (int earlier = 0; earlier <= later; earlier++) {
                String before = "every 5 days" + clauses[later];
                Check.wrongAt(before + clauses[earlier], before.length() + 1);
            }
        }
    }

    /** "skip M,M,.. (months 0 .. 11" */
    private static void monthsFrom0To11() {
        Check.wrongAt("every 5 days skip -1", 18);
        Check.fits("every 5 days skip 0");
        Check.fits("every 5 days skip 9");
        Check.fits("every 5 days skip 10");
        Check.fits("every 5 days skip 11");
        Check.wrongAt("every 5 days skip 12", 18);
        Check.wrongAt("every 5 days skip 99", 18);
        Check.wrongAt("every 5 days skip 100", 18);
        Check.wrongAt("every 5 days skip 4294967296", 18);
        Check.wrongAt("every 5 days skip 0,12", 20);
        Check.wrongAt("every 5 days skip", 17);
        Check.wrongAt("every 5 days skip ", 18);
        Check.wrongAt("every 5 days skip joined 2", 18);
        Check.fits("every 5 days skip " + ALL_MONTHS);
        Check.wrongAt("every 5 days skip " + ALL_MONTHS + ",", 44);
        Check.wrongAt("every 5 days skip " + ALL_MONTHS + ",12", 44);
        Check.wrongAt("every 5 days skip " + ALL_MONTHS + ",0", 44);
    }

    /** "going up": by one, by more, not at all, down. */
    private static void monthsGoingUp() {
        for (int first = 0; first < 12; first++) {
            for (int second = 0; second < 12; second++) {
                String before = "every 5 days skip " + first + ",";
                if (second > first) {
                    Check.fits(before + second);
                } else {
                    Check.wrongAt(before + second, before.length());
                }
            }
        }
        Check.wrongAt("every 5 days skip 1,5,5", 22);
        Check.wrongAt("every 5 days skip 1,5,2", 22);
        Check.fits("every 5 days skip 1,5,6");
    }

    /** "joined N (each N-th issue is a double one), 2 .. 99" */
    private static void joinedFrom2To99() {
        Check.wrongAt("every 5 days joined 0", 20);
        Check.wrongAt("every 5 days joined 1", 20);
        Check.fits("every 5 days joined 2");
        Check.fits("every 5 days joined 99");
        Check.wrongAt("every 5 days joined 100", 20);
        Check.wrongAt("every 5 days joined 4294967298", 20);
        Check.wrongAt("every 5 days joined", 19);
        Check.wrongAt("every 5 days joined ", 20);
        Check.wrongAt("every 5 days joined volume 3", 20);
    }

    /** "volume N (numbers that make one), 1 .. 99" */
    private static void volumeFrom1To99() {
        Check.wrongAt("every 5 days volume 0", 20);
        Check.fits("every 5 days volume 1");
        Check.fits("every 5 days volume 99");
        Check.wrongAt("every 5 days volume 100", 20);
        Check.wrongAt("every 5 days volume 4294967297", 20);
        Check.wrongAt("every 5 days volume", 19);
        Check.wrongAt("every 5 days volume ", 20);
        Check.wrongAt("every 5 days volume restart", 20);
    }

    /** "and behind that, perhaps, restart" */
    private static void restartBehindVolume() {
        Check.fits("every 5 days volume 3");
        Check.fits("every 5 days volume 3 restart");
        Check.wrongAt("every 5 days restart", 13);
        Check.wrongAt("every 5 days skip 3 restart", 20);
        Check.wrongAt("every 5 days joined 2 restart", 22);
        Check.wrongAt("every 5 days restart volume 3", 13);
        Check.wrongAt("every 5 days volume 3 restart restart", 30);
        Check.wrongAt("every 5 days volume 3 restart skip 3", 30);
    }

    /** "Numbers have no 0 in front": a 0 alone has none in front. */
    private static void noZeroInFront() {
        Check.wrongAt("every 01 days", 6);
        Check.wrongAt("every 00 days", 6);
        Check.wrongAt("every 012 days", 6);
        Check.fits("every 10 days");
        Check.fits("every 5 days skip 0");
        Check.wrongAt("every 5 days skip 00", 18);
        Check.wrongAt("every 5 days skip 03", 18);
        Check.wrongAt("every 5 days skip 0,01", 20);
        Check.fits("every 5 days skip 0,1");
        Check.wrongAt("every 5 days joined 02", 20);
        Check.fits("every 5 days joined 20");
        Check.wrongAt("every 5 days volume 01", 20);
        Check.fits("every 5 days volume 10");
    }

    /** "WRONG is the first sign that does not fit (or the end)": each beginning of a text; -1 for those that are patterns. */
    private static void theEndIsWrong() {
        int[] places = {0, 0, 0, 0, 0, 5, 6, 7, 8, 9, 9, 9, 9, 9, -1, 15, 15, 15, 15, 19, 20, -1, 22, -1, -1, 25, 25, 25, 25, 25, 25, 31, 32, -1, 34, 34, 34,
            34, 34, 34, 40, 41, -1, -1, 44, 44, 44, 44, 44, 44, 44, -1};
        Check.due("beginnings", places.length, FULL.length() + 1);
        for (int k = 0; k < places.length; k++) {
            if (places[k] < 0) {
                Check.fits(FULL.substring(0, k));
            } else {
                Check.wrongAt(FULL.substring(0, k), places[k]);
            }
        }
    }

    /** "WRONG is the first sign that does not fit (or the end), told by its place": a sign that fits nowhere, at each place. */
    private static void theFirstSignThatDoesNotFit() {
        int[] places = {0, 0, 0, 0, 0, 5, 6, 7, 8, 9, 9, 9, 9, 9, 14, 15, 15, 15, 15, 19, 20, 21, 22, 23, 24, 25, 25, 25, 25, 25, 25, 31, 32, 33, 34, 34, 34,
            34, 34, 34, 40, 41, 42, 43, 44, 44, 44, 44, 44, 44, 44};
        Check.due("places", places.length, FULL.length());
        for (char sign : new char[] {'?', 0, 255}) {
            for (int k = 0; k < places.length; k++) {
                Check.wrongAt(FULL.substring(0, k) + sign + FULL.substring(k + 1), places[k]);
            }
            Check.wrongAt(FULL + sign, FULL.length());
        }
    }

    /** "a word that can't be there, or a number that can't be, at its first sign." */
    private static void wordsAndNumbersAtTheirFirstSign() {
        Check.wrongAt("each 5 days", 0);
        Check.wrongAt("everything 5 days", 0);
        Check.wrongAt("every days", 6);
        Check.wrongAt("every 5 daylight", 8);
        for (char letter : new char[] {'a', 'z', 'A', 'Z'}) {
            Check.wrongAt("every 5 days" + letter, 8);
        }
        for (char sign : new char[] {'a' - 1, 'z' + 1, 'A' - 1, 'Z' + 1, '0', '9'}) {
            Check.wrongAt("every 5 days" + sign, 12);
        }
        Check.wrongAt("every 5 days every 5 days", 13);
        Check.wrongAt("every 5 days skipped 3", 13);
        Check.wrongAt("every 5 days volumes 3", 13);
        Check.wrongAt("every 5 days 5", 13);
        Check.wrongAt("every 5 days volume 3 restarted", 22);
        Check.wrongAt("every 123 days", 6);
        Check.wrongAt("every 5 days skip 3,123", 20);
    }
}
