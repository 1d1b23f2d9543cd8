/** The edges that the promises 1 to 15 name, methods by the promise's number, refused calls with what they leave among them. */
public final class CallsEdgeTest {
    private static final int[] FAR = {Integer.MIN_VALUE, -1000001, -2, -1, 1000001, Integer.MAX_VALUE};

    public static void main(String[] args) {
        promise1NewObject();
        promise2LowestEightBits();
        promise2Beyond120();
        promise3NothingCollectedAnyMore();
        promise3TenPatterns();
        promise4HowMany();
        promise4Refused();
        promise5ThatDayOrALaterOne();
        promise5HolidaysAndIrregularDays();
        promise5NumbersGoOn();
        promise5DoublesFromTheFirstNewOne();
        promise5AsManyAreForetold();
        promise5FewerAtTheLastDay();
        promise5Refused();
        promise6Issue();
        promise7Date();
        promise8Irregular();
        promise9Holiday();
        promise10Came();
        promise11Late();
        promise11LateWhenCome();
        promise12Claim();
        promise12InOrder();
        promises13And14Print();
        promise15In360Days();
        promise15Divided();
        promise15Refused();
        the512thCall();
        Check.end();
    }

    /** "No patterns, no holidays, nothing collected, THE LIST is empty." */
    private static void promise1NewObject() {
        PatternText used = Check.with("every 1 days");
        used.holiday(3);
        used.foretell(0, 0, 2);
        used.print(0);
        used.sign('e');
        PatternText x = new PatternText();
        Check.due("patterns", x.print(0), 0);
        Check.due("printed", x.at(0), -1);
        Check.dates("THE LIST", x);
        Check.due("holidays", x.holiday(3), 1);
        Check.due("changed before a pattern is there", x.changed(0, 0), -1);
        Check.due("what is collected", Check.read(x, "every 1 days"), 0);
        Check.due("changed when it is there", x.changed(0, 0), 0);
        Check.dates("as many as were taken away: none", x);
    }

    /** "A sign (the lowest eight bits) is collected" */
    private static void promise2LowestEightBits() {
        for (int more : new int[] {0, 256, -256, 65536, Integer.MIN_VALUE, 0x7fffff00}) {
            PatternText x = new PatternText();
            String text = "every 5 days";
            for (int k = 0; k < text.length(); k++) {
                x.sign(text.charAt(k) + more);
            }
            Check.due("read() with " + more + " more", x.read(), 0);
            x.print(0);
            Check.due("at(0) with " + more + " more", x.at(0), 'e');
        }
        PatternText x = new PatternText();
        x.sign('e' + 128);
        Check.write(x, "very 5 days");
        Check.due("the eighth bit is one of them", x.read(), -1);
    }

    /** "beyond 120 it is lost": no text that long is a pattern, but none comes round to the beginning either. */
    private static void promise2Beyond120() {
        String text = "every 5 days";
        for (int length : new int[] {119, 120, 121, 240, 241}) {
            PatternText x = new PatternText();
            Check.due("a pattern behind " + length + " signs", Check.read(x, "x".repeat(length) + text), -1);
            Check.due("nothing is left of it", x.read(), -1);
            Check.due("the next one is read from its beginning", Check.read(x, text), 0);
            PatternText y = new PatternText();
            Check.due("a pattern before " + length + " spaces", Check.read(y, text + " ".repeat(length)), -14);
            Check.due("nothing is left of it", Check.read(y, text), 0);
        }
        PatternText x = new PatternText();
        Check.due("a number of 119 digits", Check.read(x, "every 1" + "0".repeat(118) + " days"), -7);
        Check.due("a word of 140 letters", Check.read(x, "every 5 days" + "s".repeat(136)), -9);
        Check.fits("every 99 months skip 0,1,2,3,4,5,6,7,8,9,10,11 joined 99 volume 99 restart");
    }

    /** "What is collected is a pattern more: its number; nothing is collected any more. -1 less the place if it is WRONG" */
    private static void promise3NothingCollectedAnyMore() {
        PatternText x = new PatternText();
        Check.due("nothing is collected: the end is WRONG", x.read(), -1);
        Check.due("the first", Check.read(x, "every 5 days"), 0);
        Check.due("nothing behind a pattern", x.read(), -1);
        Check.due("WRONG at place 0", Check.read(x, "x"), -1);
        Check.due("WRONG at place 5", Check.read(x, "every"), -6);
        Check.due("nothing behind a WRONG one", x.read(), -1);
        Check.due("a WRONG one is no pattern", x.print(1), 0);
        Check.due("the next number", Check.read(x, "every 5 days"), 1);
        Check.due("the same text is a pattern of its own", x.print(1), 12);
    }

    /** "-200 if there are 10 (looked at last)." */
    private static void promise3TenPatterns() {
        PatternText x = new PatternText();
        for (int k = 0; k < 9; k++) {
            Check.read(x, "every 5 days");
        }
        Check.due("the tenth", Check.read(x, "every 6 days"), 9);
        Check.due("the eleventh", Check.read(x, "every 7 days"), -200);
        Check.due("nothing is collected behind it", x.read(), -1);
        Check.due("WRONG is looked at first", Check.read(x, "every 0 days"), -7);
        Check.due("still", Check.read(x, "every 7 days"), -200);
        x.print(9);
        Check.due("the tenth stays", x.at(6), '6');
        Check.due("there is no eleventh", x.print(10), 0);
    }

    /** "n issues, 1 .. 100, are FORETOLD from a day on: how many, THE LIST." */
    private static void promise4HowMany() {
        PatternText x = Check.with("every 1 days");
        for (int n : new int[] {1, 2, 99, 100}) {
            Check.due("foretell " + n, x.foretell(0, 7, n), n);
            Check.due("the last of " + n, x.date(n - 1), 6 + n);
            Check.due("behind the last of " + n, x.date(n), -1);
        }
        Check.due("fewer, if it ends", x.foretell(0, 999999, 100), 2);
        Check.dates("fewer, if it ends", x, 999999, 1000000);
        x.came(0, 5);
        x.irregular(1, 5);
        Check.due("the same again", x.foretell(0, 999999, 100), 2);
        Check.dates("none is irregular any more", x, 999999, 1000000);
        Check.issues("none has come any more", x, 5, 0, 0);
    }

    /** "NONE, and THE LIST stays, if there is no such pattern, n or day." */
    private static void promise4Refused() {
        PatternText x = Check.with("every 1 days", "every 2 days joined 2 volume 2 restart");
        x.foretell(1, 10, 3);
        x.came(0, 14);
        x.irregular(1, 5);
        String before = Check.state(x, 20);
        for (int wrong : FAR) {
            Check.due("pattern " + wrong, x.foretell(wrong, 0, 1), -1);
            Check.due("day " + wrong, x.foretell(0, wrong, 1), -1);
            Check.due("n " + wrong, x.foretell(0, 0, wrong), -1);
        }
        Check.due("pattern 2", x.foretell(2, 0, 1), -1);
        Check.due("n 0", x.foretell(0, 0, 0), -1);
        Check.due("n 101", x.foretell(0, 0, 101), -1);
        Check.same("foretell refused", Check.state(x, 20), before);
        Check.due("none at all is no refusal", x.foretell(0, 0, 1), 1);
        Check.dates("THE LIST is another", x, 0);
    }

    /** "the first issue whose step is that day or a later one, and all behind it, are taken away" */
    private static void promise5ThatDayOrALaterOne() {
        PatternText x = Check.with("every 10 days", "every 1 days");
        int[][] dayAndTaken = {{0, 4}, {1, 3}, {9, 3}, {10, 3}, {11, 2}, {20, 2}, {21, 1}, {29, 1}, {30, 1}, {31, 0}, {1000000, 0}};
        for (int[] c : dayAndTaken) {
            x.foretell(0, 0, 4);
            Check.due("changed from " + c[0], x.changed(1, c[0]), c[1]);
            for (int i = 0; i < 4; i++) {
                boolean stays = i < 4 - c[1];
                Check.due("changed from " + c[0] + ", date " + i, x.date(i), stays ? 10 * i : c[0] + i - 4 + c[1]);
                Check.due("changed from " + c[0] + ", pattern " + i, x.issue(i, 4), stays ? 0 : 1);
            }
        }
        x.foretell(0, 50, 2);
        Check.due("a day before all", x.changed(1, 0), 2);
        Check.dates("a day before all", x, 0, 1);
    }

    /** "(holidays and irregular days do not matter)" */
    private static void promise5HolidaysAndIrregularDays() {
        PatternText x = Check.with("every 10 days");
        x.holiday(10);
        x.foretell(0, 0, 3);
        Check.dates("moved", x, 0, 11, 20);
        Check.due("step 10 is before 11, though it expects 11", x.changed(0, 11), 1);
        x.foretell(0, 0, 3);
        Check.due("step 10 is that day", x.changed(0, 10), 2);
        x.foretell(0, 0, 3);
        x.irregular(0, 500);
        x.irregular(2, 0);
        Check.due("one irregular day above, one below", x.changed(0, 15), 1);
        Check.dates("the one that is left keeps its irregular day", x, 500, 11, 15);
        x.irregular(2, 7);
        Check.due("step 15", x.changed(0, 16), 0);
        Check.due("step 15", x.changed(0, 15), 1);
        Check.dates("the new one is regular", x, 500, 11, 15);
    }

    /** "numbers go on behind the last one of the latest issue left (as if none restarted; from 1 on if none is left), with the other one's volumes and restarts" */
    private static void promise5NumbersGoOn() {
        PatternText x = Check.with("every 10 days joined 2 volume 2 restart", "every 10 days", "every 10 days volume 3 restart", "every 10 days volume 4");
        x.foretell(0, 0, 4);
        x.changed(1, 10);
        Check.issues("behind number 1", x, 0, 1, 2, 3, 4);
        x.foretell(0, 0, 4);
        x.changed(1, 20);
        Check.issues("behind numbers 2 and 3, told as 2 and 1", x, 0, 1, 2, 4, 5);
        Check.issues("without volumes", x, 2, 1, 1, 0, 0);
        x.foretell(0, 0, 4);
        x.changed(2, 20);
        Check.issues("4 and 5 within volumes of three", x, 0, 1, 2, 1, 2);
        Check.issues("4 and 5 in volumes of three", x, 2, 1, 1, 2, 2);
        x.changed(3, 30);
        Check.issues("5 in volumes of four", x, 0, 1, 2, 1, 5);
        Check.issues("5 in volumes of four", x, 2, 1, 1, 2, 2);
        x.changed(3, 20);
        Check.issues("4 and 5 in volumes of four", x, 2, 1, 1, 1, 2);
        x.changed(2, 0);
        Check.issues("none is left: from 1 on", x, 0, 1, 2, 3, 1);
        Check.issues("none is left: from 1 on", x, 2, 1, 1, 1, 2);
    }

    /** "the N-th ones that are double are counted from the first new one" */
    private static void promise5DoublesFromTheFirstNewOne() {
        PatternText x = Check.with("every 10 days joined 2", "every 10 days joined 3");
        x.foretell(0, 0, 5);
        x.changed(0, 10);
        Check.issues("behind the first, which is single", x, 1, 1, 1, 2, 1, 2);
        x.foretell(0, 0, 5);
        x.changed(1, 20);
        Check.issues("joined 3, three new ones", x, 1, 1, 2, 1, 1, 2);
        x.foretell(0, 0, 5);
        x.changed(1, 30);
        Check.issues("joined 3, two new ones", x, 1, 1, 2, 1, 1, 1);
    }

    /** "then as many are foretold by the other one from that day on"; "How many were taken away" also if fewer come. */
    private static void promise5AsManyAreForetold() {
        PatternText x = Check.with("every 10 days", "every 1 days skip 0", "every 1 days skip 0,1,2,3,4,5,6,7,8,9,10,11");
        x.foretell(0, 0, 3);
        Check.due("from a day that is left out", x.changed(1, 5), 2);
        Check.dates("from a day that is left out", x, 0, 30, 31);
        Check.due("none comes", x.changed(2, 30), 2);
        Check.dates("none comes", x, 0);
        Check.due("none taken, none foretold", x.changed(0, 1), 0);
        Check.dates("none taken, none foretold", x, 0);
        Check.due("the only one goes", x.changed(2, 0), 1);
        Check.dates("THE LIST is empty", x);
        Check.due("of the empty list", x.changed(0, 0), 0);
        x.foretell(0, 999960, 4);
        Check.due("on up to the last day", x.changed(0, 999980), 2);
        Check.dates("on up to the last day", x, 999960, 999970, 999980, 999990);
        Check.due("the last step is the last day", x.changed(0, 999990), 1);
        Check.dates("the last step is the last day", x, 999960, 999970, 999980, 999990);
        Check.due("three would go beyond the last day", x.changed(0, 999961), 3);
        Check.dates("three end at 999981", x, 999960, 999961, 999971, 999981);
    }

    /** The same, where what is foretold ends at the last day, by its step or by a holiday. */
    private static void promise5FewerAtTheLastDay() {
        PatternText x = Check.with("every 1 days", "every 10 days");
        x.foretell(0, 999980, 3);
        Check.due("two of them come", x.changed(1, 999981), 2);
        Check.dates("two of them come", x, 999980, 999981, 999991);
        x.foretell(0, 999998, 3);
        Check.due("the step behind the last day", x.changed(1, 999999), 2);
        Check.dates("the step behind the last day", x, 999998, 999999);
        x.foretell(0, 999989, 3);
        Check.due("the step on the last day", x.changed(1, 999990), 2);
        Check.dates("the step on the last day", x, 999989, 999990, 1000000);
        Check.due("the last day itself", x.changed(0, 1000000), 1);
        Check.dates("the last day itself", x, 999989, 999990, 1000000);
        x.holiday(1000000);
        Check.due("a holiday moves it beyond", x.changed(0, 1000000), 1);
        Check.dates("a holiday moves it beyond", x, 999989, 999990);
        Check.due("fewer are there now", x.changed(0, 999990), 1);
    }

    /** "NONE, and nothing happens, if there is no such pattern or day, or one that would go has COME." */
    private static void promise5Refused() {
        PatternText x = Check.with("every 10 days", "every 1 days");
        x.foretell(0, 0, 4);
        x.irregular(1, 3);
        x.came(2, 0);
        String before = Check.state(x, 50);
        for (int wrong : FAR) {
            Check.due("pattern " + wrong, x.changed(wrong, 30), -1);
            Check.due("day " + wrong, x.changed(1, wrong), -1);
        }
        Check.due("pattern 2", x.changed(2, 30), -1);
        Check.due("the first that would go has come", x.changed(1, 20), -1);
        Check.due("the second that would go has come", x.changed(1, 10), -1);
        Check.due("the third that would go has come", x.changed(1, 0), -1);
        Check.same("changed refused", Check.state(x, 50), before);
        Check.due("the last that is left has come", x.changed(1, 21), 1);
        Check.dates("the last that is left has come", x, 0, 3, 20, 21);
        x.came(3, 30);
        Check.due("none would go", x.changed(1, 22), 0);
        Check.due("the last of them has come", x.changed(1, 21), -1);
        x.foretell(0, 0, 2);
        x.came(0, 0);
        Check.due("the first of all has come, and would go", x.changed(1, 0), -1);
        Check.due("the first of all has come, and stays", x.changed(1, 1), 1);
    }

    /** "Of the i-th issue of THE LIST, from 0 on, what 0 .. 5; NONE if there is none such, or for another what." */
    private static void promise6Issue() {
        PatternText x = Check.with("every 1 days", "every 1 days joined 2 volume 2 restart");
        x.foretell(1, 0, 2);
        x.came(1, 0);
        int[] first = {1, 1, 1, 0, 1, 0};
        int[] last = {2, 2, 1, 1, 1, 1};
        for (int what = 0; what <= 5; what++) {
            Check.due("issue(-1, " + what + ")", x.issue(-1, what), -1);
            Check.due("issue(0, " + what + ")", x.issue(0, what), first[what]);
            Check.due("issue(1, " + what + ")", x.issue(1, what), last[what]);
            Check.due("issue(2, " + what + ")", x.issue(2, what), -1);
        }
        for (int wrong : FAR) {
            Check.due("issue(0, " + wrong + ")", x.issue(0, wrong), -1);
            Check.due("issue(" + wrong + ", 0)", x.issue(wrong, 0), -1);
        }
        Check.due("issue(0, 6)", x.issue(0, 6), -1);
        Check.due("issue(1, 6)", x.issue(1, 6), -1);
        x.foretell(0, 0, 100);
        Check.due("issue(99, 0)", x.issue(99, 0), 100);
        Check.due("issue(100, 0)", x.issue(100, 0), -1);
    }

    /** "The day that an issue of THE LIST expects; NONE if there is none such." */
    private static void promise7Date() {
        PatternText x = Check.with("every 1 days");
        Check.due("date(0) of the empty list", x.date(0), -1);
        x.foretell(0, 999901, 100);
        Check.due("date(-1)", x.date(-1), -1);
        Check.due("date(0)", x.date(0), 999901);
        Check.due("date(99)", x.date(99), 1000000);
        Check.due("date(100)", x.date(100), -1);
        for (int wrong : FAR) {
            Check.due("date(" + wrong + ")", x.date(wrong), -1);
        }
    }

    /** "it expects a day: 1; 0 if there is none such issue or day, or it has COME." */
    private static void promise8Irregular() {
        PatternText x = Check.with("every 10 days");
        x.holiday(15);
        x.foretell(0, 0, 3);
        Check.due("the first issue, the first day", x.irregular(0, 0), 1);
        Check.due("the last issue, the last day", x.irregular(2, 1000000), 1);
        Check.due("a holiday may be told", x.irregular(1, 15), 1);
        Check.dates("irregular ones", x, 0, 15, 1000000);
        x.came(1, 16);
        String before = Check.state(x, 1000000);
        for (int wrong : FAR) {
            Check.due("irregular(0, " + wrong + ")", x.irregular(0, wrong), 0);
            Check.due("irregular(" + wrong + ", 5)", x.irregular(wrong, 5), 0);
        }
        Check.due("irregular(3, 5)", x.irregular(3, 5), 0);
        Check.due("it has come", x.irregular(1, 5), 0);
        Check.same("irregular refused", Check.state(x, 1000000), before);
        Check.due("an irregular one again", x.irregular(0, 8), 1);
        Check.due("its day", x.date(0), 8);
        Check.due("before any was foretold", new PatternText().irregular(0, 8), 0);
    }

    /** "A day is a HOLIDAY (for what is foretold from now on): how many there are; 0 if it can't be, is one, or there are 60." */
    private static void promise9Holiday() {
        PatternText x = Check.with("every 1 days");
        x.foretell(0, 4, 2);
        Check.due("the first", x.holiday(4), 1);
        Check.dates("what was foretold stays", x, 4, 5);
        x.changed(0, 5);
        Check.dates("what is left stays", x, 4, 5);
        x.foretell(0, 4, 2);
        Check.dates("what is foretold now", x, 5, 5);
        Check.due("it is one", x.holiday(4), 0);
        Check.due("the day behind is none", x.holiday(5), 2);
        Check.due("the day before is none", x.holiday(3), 3);
        for (int wrong : FAR) {
            Check.due("holiday(" + wrong + ")", x.holiday(wrong), 0);
        }
        Check.due("refused ones do not count", x.holiday(1000000), 4);
        for (int k = 5; k <= 60; k++) {
            Check.due("holiday number " + k, x.holiday(1000 - 2 * k), k);
        }
        Check.due("there are 60", x.holiday(7), 0);
        Check.due("there are 60, and it is one", x.holiday(880), 0);
        x.foretell(0, 6, 2);
        Check.dates("a refused one is none", x, 6, 7);
        x.foretell(0, 880, 2);
        Check.dates("the sixtieth is one", x, 881, 881);
    }

    /** "An issue of THE LIST has COME on a day: 1; 0 if there is none such issue or day, or it has already." */
    private static void promise10Came() {
        PatternText x = Check.with("every 10 days");
        x.foretell(0, 0, 3);
        String before = Check.state(x, 50);
        for (int wrong : FAR) {
            Check.due("came(0, " + wrong + ")", x.came(0, wrong), 0);
            Check.due("came(" + wrong + ", 5)", x.came(wrong, 5), 0);
        }
        Check.due("came(3, 5)", x.came(3, 5), 0);
        Check.same("came refused", Check.state(x, 50), before);
        Check.due("the first issue, the first day", x.came(0, 0), 1);
        Check.due("the last issue, the last day", x.came(2, 1000000), 1);
        Check.issues("the one between has not", x, 5, 1, 0, 1);
        Check.due("it has already", x.came(0, 50), 0);
        Check.due("it has already, on the same day", x.came(0, 0), 0);
        Check.due("it came on the first day", x.late(0, 50), 0);
        Check.due("before any was foretold", new PatternText().came(0, 0), 0);
    }

    /** "what that is above the day that it expects (0 if it is not above); NONE if there is none such, or no such day." */
    private static void promise11Late() {
        PatternText x = Check.with("every 10 days");
        x.foretell(0, 100, 2);
        Check.due("far before", x.late(0, 0), 0);
        Check.due("the day before", x.late(0, 99), 0);
        Check.due("the day itself", x.late(0, 100), 0);
        Check.due("the day behind", x.late(0, 101), 1);
        Check.due("the last day", x.late(1, 1000000), 999890);
        x.irregular(1, 0);
        Check.due("the most that there is", x.late(1, 1000000), 1000000);
        for (int wrong : FAR) {
            Check.due("late(0, " + wrong + ")", x.late(0, wrong), -1);
            Check.due("late(" + wrong + ", 200)", x.late(wrong, 200), -1);
        }
        Check.due("late(2, 200)", x.late(2, 200), -1);
        Check.due("before any was foretold", new PatternText().late(0, 0), -1);
    }

    /** "if it has COME, on the day on which it did (0 if it is not above)" */
    private static void promise11LateWhenCome() {
        PatternText x = Check.with("every 10 days");
        x.foretell(0, 100, 4);
        x.came(0, 99);
        x.came(1, 110);
        x.came(2, 121);
        x.came(3, 1000000);
        for (int day : new int[] {0, 110, 121, 1000000}) {
            Check.due("it came before, asked on " + day, x.late(0, day), 0);
            Check.due("it came on the day, asked on " + day, x.late(1, day), 0);
            Check.due("it came a day behind, asked on " + day, x.late(2, day), 1);
            Check.due("it came on the last day, asked on " + day, x.late(3, day), 999870);
        }
        Check.due("it has come, but there is no such day", x.late(2, 1000001), -1);
        Check.due("it has come, but there is no such day", x.late(2, -1), -1);
    }

    /** "The i-th issue of THE LIST, from 0 on, that has not COME and is late on a day; NONE if there is none such, or no such day." */
    private static void promise12Claim() {
        PatternText x = Check.with("every 10 days", "every 1 days");
        Check.due("before any was foretold", x.claim(1000000, 0), -1);
        x.foretell(0, 100, 2);
        Check.due("the day of the first", x.claim(100, 0), -1);
        Check.due("the day behind it", x.claim(101, 0), 0);
        Check.due("the day behind it, i 1", x.claim(101, 1), -1);
        Check.due("the day of the second", x.claim(110, 1), -1);
        Check.due("the day behind that", x.claim(111, 1), 1);
        Check.due("i 2", x.claim(111, 2), -1);
        for (int wrong : FAR) {
            Check.due("claim(" + wrong + ", 0)", x.claim(wrong, 0), -1);
            Check.due("claim(111, " + wrong + ")", x.claim(111, wrong), -1);
        }
        x.came(0, 1000000);
        Check.due("the first has come", x.claim(111, 0), 1);
        Check.due("the first has come, i 1", x.claim(111, 1), -1);
        x.came(1, 0);
        Check.due("both have come", x.claim(1000000, 0), -1);
        x.foretell(1, 0, 100);
        Check.due("the last of 99", x.claim(99, 98), 98);
        Check.due("the hundredth is not late", x.claim(99, 99), -1);
        Check.due("the last of 100", x.claim(100, 99), 99);
        Check.due("behind the last of 100", x.claim(100, 100), -1);
    }

    /** "by how much, the latest first, then by their places: its place" */
    private static void promise12InOrder() {
        PatternText x = Check.with("every 1 days");
        x.holiday(10);
        x.foretell(0, 10, 4);
        int[] turned = {3, 0, 1, 2};
        Check.dates("the first two expect the same day", x, 11, 11, 12, 13);
        for (int i = 0; i < 4; i++) {
            Check.due("by places", x.claim(20, i), i);
        }
        x.irregular(3, 10);
        for (int i = 0; i < 4; i++) {
            Check.due("a day earlier is first", x.claim(20, i), turned[i]);
        }
        x.irregular(3, 11);
        x.irregular(2, 11);
        for (int i = 0; i < 4; i++) {
            Check.due("all the same", x.claim(12, i), i);
        }
        Check.due("no fifth", x.claim(12, 4), -1);
        Check.due("none on that day", x.claim(11, 0), -1);
    }

    /** "how many signs; 0 if there is none such (what was printed before stays)"; "Sign i, from 0 on, of what was printed latest; NONE if there is none such." */
    private static void promises13And14Print() {
        PatternText x = Check.with("every 1 days", "every 20 weeks");
        Check.due("at(0) before all", x.at(0), -1);
        Check.due("print(-1) before all", x.print(-1), 0);
        Check.due("at(0) still", x.at(0), -1);
        Check.due("print(1)", x.print(1), 14);
        Check.due("at(-1)", x.at(-1), -1);
        Check.due("at(0)", x.at(0), 'e');
        Check.due("at(13)", x.at(13), 's');
        Check.due("at(14)", x.at(14), -1);
        for (int wrong : FAR) {
            Check.due("print(" + wrong + ")", x.print(wrong), 0);
            Check.due("at(" + wrong + ")", x.at(wrong), -1);
        }
        Check.due("print(2)", x.print(2), 0);
        Check.due("what was printed stays", x.at(9), 'w');
        Check.due("a shorter one", x.print(0), 12);
        Check.due("its last sign", x.at(11), 's');
        Check.due("nothing is left of the longer one", x.at(12), -1);
        String longest = "every 99 months skip 0,1,2,3,4,5,6,7,8,9,10,11 joined 99 volume 99 restart";
        Check.due("the longest", Check.read(x, longest), 2);
        Check.due("print of the longest", x.print(2), longest.length());
        for (int k = 0; k < longest.length(); k++) {
            Check.due("at(" + k + ") of the longest", x.at(k), longest.charAt(k));
        }
        Check.due("behind the longest", x.at(longest.length()), -1);
    }

    /** "How many issues a pattern has in the 360 days that begin with a day, its steps beginning there" */
    private static void promise15In360Days() {
        PatternText x = Check.with("every 1 days", "every 12 months", "every 51 weeks", "every 1 days skip 0", "every 40 days", "every 60 days skip 0,4,8",
            "every 1 months skip 0,1,2,3,4,5,6,7,8,9,10,11");
        Check.due("360 of them", x.yearly(0, 0, 1), 360);
        Check.due("a step 360 days behind", x.yearly(1, 0, 1), 1);
        Check.due("a step 357 days behind", x.yearly(2, 0, 1), 2);
        Check.due("a month is left out, from its first day on", x.yearly(3, 0, 1), 330);
        Check.due("a month is left out, from the day behind on", x.yearly(3, 30, 1), 330);
        Check.due("320 is one, 360 is none", x.yearly(4, 7, 1), 9);
        Check.due("months 0, 2, 4, 6, 8, 10", x.yearly(5, 0, 1), 3);
        Check.due("months 1, 3, 5, 7, 9, 11", x.yearly(5, 59, 1), 6);
        Check.due("all months are left out", x.yearly(6, 0, 1), 0);
        Check.due("the 360th day is the last day", x.yearly(0, 999641, 1), 360);
        Check.due("the 360th would be beyond it", x.yearly(0, 999642, 1), 359);
        Check.due("the last day", x.yearly(0, 1000000, 1), 1);
        Check.due("a step on the last day", x.yearly(4, 999960, 1), 2);
        Check.due("a step behind the last day", x.yearly(4, 999961, 1), 1);
        PatternText prime = Check.with("every 90 days", "every 89 days");
        Check.due("0, 90, 180, 270", prime.yearly(0, 0, 1), 4);
        Check.due("0, 89, 178, 267, 356", prime.yearly(1, 0, 1), 5);
    }

    /** "that many divided by each, cut" */
    private static void promise15Divided() {
        PatternText x = Check.with("every 40 days", "every 1 days skip 0,1,2,3,4,5,6,7,8,9,10,11");
        int[][] eachAndAnswer = {{1, 9}, {2, 4}, {3, 3}, {4, 2}, {5, 1}, {8, 1}, {9, 1}, {10, 0}, {Integer.MAX_VALUE, 0}, {-1, -9}, {-2, -4}, {-8, -1}, {-9, -1},
            {-10, 0}, {Integer.MIN_VALUE, 0}};
        for (int[] c : eachAndAnswer) {
            Check.due("9 divided by " + c[0], x.yearly(0, 0, c[0]), c[1]);
            Check.due("0 divided by " + c[0], x.yearly(1, 0, c[0]), 0);
        }
    }

    /** "NONE if there is no such pattern or day. ArithmeticException if each is 0." */
    private static void promise15Refused() {
        PatternText x = Check.with("every 40 days", "every 1 days skip 0,1,2,3,4,5,6,7,8,9,10,11");
        for (int wrong : FAR) {
            Check.due("yearly(" + wrong + ", 0, 1)", x.yearly(wrong, 0, 1), -1);
            Check.due("yearly(0, " + wrong + ", 1)", x.yearly(0, wrong, 1), -1);
            Check.due("yearly(" + wrong + ", 0, 0)", x.yearly(wrong, 0, 0), -1);
            Check.due("yearly(0, " + wrong + ", 0)", x.yearly(0, wrong, 0), -1);
        }
        Check.due("yearly(2, 0, 1)", x.yearly(2, 0, 1), -1);
        x.foretell(0, 0, 2);
        String before = Check.state(x, 100);
        for (int day : new int[] {0, 1000000}) {
            Check.due("each 0 throws", throwsArithmetic(x, 0, day), 1);
            Check.due("each 0 throws, with no issues, too", throwsArithmetic(x, 1, day), 1);
        }
        Check.same("yearly", Check.state(x, 100), before);
        Check.due("the next call answers", x.yearly(0, 0, 1), 9);
    }

    private static int throwsArithmetic(PatternText x, int pattern, int day) {
        try {
            x.yearly(pattern, day, 0);
            return 0;
        } catch (ArithmeticException e) {
            return 1;
        }
    }

    /** "An object is used for at most 512 calls after it has been made": the promises hold for the last of them. */
    private static void the512thCall() {
        PatternText x = Check.with("every 1 days");
        Check.due("call 14", x.foretell(0, 0, 100), 100);
        for (int call = 15; call < 512; call++) {
            Check.due("call " + call, x.claim(1000, call % 100), call % 100);
        }
        Check.due("call 512", x.changed(0, 50), 50);
    }
}
