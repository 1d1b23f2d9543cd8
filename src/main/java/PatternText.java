/**
 * Publication patterns as texts, the issues that they foretell, and what became of these issues.
 * What each call must answer stands in ../shared/DOC.md, promise by promise.
 */
public final class PatternText {
    public static final int NONE = -1;

    private static final int LAST_DAY = 1000000;
    private static final int DAYS_OF_WEEK = 7;
    private static final int DAYS_OF_MONTH = 30;
    private static final int MONTHS_OF_YEAR = 12;
    private static final int DAYS_OF_YEAR = 360;
    private static final int MOST_PATTERNS = 10;
    private static final int MOST_SIGNS = 120;
    private static final int MOST_ISSUES = 100;
    private static final int MOST_HOLIDAYS = 60;
    private static final int GREATEST_NUMBER = 99;
    private static final int DAYS_LOOKED_AHEAD = 1800;
    private static final int NO_ROOM_FOR_PATTERN = -200;

    private final PatternReader reader;
    private final Pattern[] patterns;
    private final Holidays holidays;
    private final IssueList list;
    private int patternCount;
    private Pattern printed;

    public PatternText() {
        reader = new PatternReader();
        patterns = new Pattern[MOST_PATTERNS];
        holidays = new Holidays();
        list = new IssueList();
        patternCount = 0;
        printed = null;
    }

    public void sign(int c) {
        reader.collect(c & 255);
    }

    public int read() {
        boolean right = reader.understand();
        int wrongPlace = reader.place;
        int answer = right ? keepPattern() : -1 - wrongPlace;
        reader.forget();
        return answer;
    }

    public int foretell(int pattern, int day, int n) {
        Pattern p = patternOf(pattern);
        if (p == null || !isDay(day) || n < 1 || n > MOST_ISSUES) {
            return NONE;
        }
        list.cutTo(0);
        list.goOn(p, day, n, holidays);
        return list.size;
    }

    public int changed(int pattern, int day) {
        Pattern p = patternOf(pattern);
        if (p == null || !isDay(day)) {
            return NONE;
        }
        int left = list.countBefore(day);
        if (list.hasComeFrom(left)) {
            return NONE;
        }
        int taken = list.size - left;
        list.cutTo(left);
        list.goOn(p, day, taken, holidays);
        return taken;
    }

    public int issue(int i, int what) {
        if (!list.has(i)) {
            return NONE;
        }
        switch (what) {
            case 0:
                return list.told[i];
            case 1:
                return list.numbers[i];
            case 2:
                return list.volumes[i];
            case 3:
                return list.toldSecond[i];
            case 4:
                return list.patterns[i];
            case 5:
                return list.isOut(i) ? 0 : 1;
            default:
                return NONE;
        }
    }

    public long date(int i) {
        return list.has(i) ? list.expected[i] : NONE;
    }

    public int irregular(int i, int day) {
        if (!list.isOut(i) || !isDay(day)) {
            return 0;
        }
        list.expected[i] = day;
        return 1;
    }

    public int holiday(int day) {
        return isDay(day) && holidays.add(day) ? holidays.count : 0;
    }

    public int came(int i, int day) {
        if (!list.isOut(i) || !isDay(day)) {
            return 0;
        }
        list.comeOn[i] = day;
        return 1;
    }

    public int late(int i, int day) {
        if (!list.has(i) || !isDay(day)) {
            return NONE;
        }
        int until = list.isOut(i) ? day : list.comeOn[i];
        return Math.max(0, until - list.expected[i]);
    }

    public int claim(int day, int i) {
        if (!isDay(day) || i < 0 || i >= list.countOverdue(day)) {
            return NONE;
        }
        int place = NONE;
        for (int k = 0; k <= i; k++) {
            place = list.nextOverdue(day, place);
        }
        return place;
    }

    public int print(int pattern) {
        Pattern p = patternOf(pattern);
        if (p == null) {
            return 0;
        }
        printed = p;
        return p.signs.length;
    }

    public int at(int i) {
        if (printed == null || i < 0 || i >= printed.signs.length) {
            return NONE;
        }
        return printed.signs[i];
    }

    public int yearly(int pattern, int day, int each) throws ArithmeticException {
        Pattern p = patternOf(pattern);
        if (p == null || !isDay(day)) {
            return NONE;
        }
        if (each == 0) {
            throw new ArithmeticException("each is 0");
        }
        return p.issuesInYearFrom(day) / each;
    }

    private static boolean isDay(int day) {
        return day >= 0 && day <= LAST_DAY;
    }

    private Pattern patternOf(int number) {
        return number >= 0 && number < patternCount && number < MOST_PATTERNS ? patterns[number] : null;
    }

    private int keepPattern() {
        if (patternCount >= MOST_PATTERNS) {
            return NO_ROOM_FOR_PATTERN;
        }
        int number = patternCount;
        patterns[number] = reader.makePattern(number);
        patternCount++;
        return number;
    }

    /** A pattern that was read: its text and what the text says. */
    private static final class Pattern {
        private final int place;
        private final int[] signs;
        private final int stepDays;
        /** Bit m is set if month m has no issues. */
        private final int monthsLeftOut;
        /** 0 if no issues are joined. */
        private final int joined;
        /** 0 if there are no volumes. */
        private final int volume;
        private final boolean restarts;

        Pattern(int place, int[] signs, int stepDays, int monthsLeftOut, int joined, int volume, boolean restarts) {
            this.place = place;
            this.signs = signs;
            this.stepDays = stepDays;
            this.monthsLeftOut = monthsLeftOut;
            this.joined = joined;
            this.volume = volume;
            this.restarts = restarts;
        }

        boolean hasIssueOn(int step) {
            int month = step / DAYS_OF_MONTH % MONTHS_OF_YEAR;
            return (monthsLeftOut & (1 << month)) == 0;
        }

        /** The first step with an issue, the given one or one behind it; NONE if foretelling ends there. */
        int stepWithIssue(int from) {
            int step = from;
            for (int looked = 0; looked < DAYS_LOOKED_AHEAD; looked++) {
                if (step - from >= DAYS_LOOKED_AHEAD || step > LAST_DAY) {
                    return NONE;
                }
                if (hasIssueOn(step)) {
                    return step;
                }
                step += stepDays;
            }
            return NONE;
        }

        // Holidays do not count here: they move the day that an issue expects, not its step.
        int issuesInYearFrom(int day) {
            int last = Math.min(day + DAYS_OF_YEAR - 1, LAST_DAY);
            int count = 0;
            int step = day;
            for (int looked = 0; looked < DAYS_OF_YEAR && step <= last; looked++) {
                if (hasIssueOn(step)) {
                    count++;
                }
                step += stepDays;
            }
            return count;
        }

        /** How many numbers the k-th issue has, from 1 on. */
        int numbersOfIssue(int k) {
            return joined > 0 && k % joined == 0 ? 2 : 1;
        }

        int volumeOf(int number) {
            return volume > 0 ? (number - 1) / volume + 1 : 0;
        }

        int asTold(int number) {
            return restarts && volume > 0 ? (number - 1) % volume + 1 : number;
        }
    }

    /**
     * Collects signs and understands them as a pattern's text. The methods that begin with "take" go
     * behind what they look for, or, if it is not there, stay where they are: so the place at which
     * the reader stops is the one that is WRONG.
     */
    private static final class PatternReader {
        private final int[] signs = new int[MOST_SIGNS];
        private int length = 0;
        private int place = 0;
        private int number = 0;
        private int stepDays = 0;
        private int monthsLeftOut = 0;
        private int joined = 0;
        private int volume = 0;
        private boolean restarts = false;

        void collect(int sign) {
            if (length < MOST_SIGNS) {
                signs[length] = sign;
                length++;
            }
        }

        void forget() {
            length = 0;
        }

        Pattern makePattern(int number) {
            int[] text = new int[length];
            System.arraycopy(signs, 0, text, 0, length);
            return new Pattern(number, text, stepDays, monthsLeftOut, joined, volume, restarts);
        }

        boolean understand() {
            place = 0;
            monthsLeftOut = 0;
            joined = 0;
            volume = 0;
            restarts = false;
            return takeHowOften() && takeClauses() && takeEnd();
        }

        private boolean takeHowOften() {
            if (!takeWord("every") || !takeSpace() || !takeNumber(1, GREATEST_NUMBER) || !takeSpace()) {
                return false;
            }
            if (takeWord("days")) {
                stepDays = number;
            } else if (takeWord("weeks")) {
                stepDays = number * DAYS_OF_WEEK;
            } else if (takeWord("months")) {
                stepDays = number * DAYS_OF_MONTH;
            } else {
                return false;
            }
            return true;
        }

        private boolean takeClauses() {
            if (takeNextWord("skip") && (!takeSpace() || !takeMonths())) {
                return false;
            }
            if (takeNextWord("joined")) {
                if (!takeSpace() || !takeNumber(2, GREATEST_NUMBER)) {
                    return false;
                }
                joined = number;
            }
            if (takeNextWord("volume")) {
                if (!takeSpace() || !takeNumber(1, GREATEST_NUMBER)) {
                    return false;
                }
                volume = number;
                restarts = takeNextWord("restart");
            }
            return true;
        }

        private boolean takeEnd() {
            if (place == length) {
                return true;
            }
            // A space does fit behind a word; what is WRONG is the word behind it that can't be there.
            takeSpace();
            return false;
        }

        private boolean takeMonths() {
            int lowest = 0;
            for (int k = 0; k <= MONTHS_OF_YEAR; k++) {
                if (!takeNumber(lowest, MONTHS_OF_YEAR - 1)) {
                    return false;
                }
                monthsLeftOut |= 1 << number;
                lowest = number + 1;
                if (signHere() != ',') {
                    return true;
                }
                place++;
            }
            return false;
        }

        /** Takes a space and the word behind it, or neither. */
        private boolean takeNextWord(String word) {
            int before = place;
            if (takeSpace() && takeWord(word)) {
                return true;
            }
            place = before;
            return false;
        }

        private boolean takeSpace() {
            if (signHere() != ' ') {
                return false;
            }
            place++;
            return true;
        }

        private boolean takeWord(String word) {
            int end = place + word.length();
            if (end > length || isLetter(signAt(end))) {
                return false;
            }
            for (int k = 0; k < word.length(); k++) {
                if (signAt(place + k) != word.charAt(k)) {
                    return false;
                }
            }
            place = end;
            return true;
        }

        private boolean takeNumber(int lowest, int highest) {
            int end = place;
            int value = 0;
            while (end < length && isDigit(signAt(end))) {
                // Kept low, so that a long row of digits can't wrap round into what is allowed.
                value = Math.min(value * 10 + signAt(end) - '0', GREATEST_NUMBER + 1);
                end++;
            }
            boolean none = end == place;
            boolean zeroInFront = signHere() == '0' && end - place > 1;
            if (none || zeroInFront || value < lowest || value > highest) {
                return false;
            }
            number = value;
            place = end;
            return true;
        }

        private int signHere() {
            return signAt(place);
        }

        private int signAt(int i) {
            return i >= 0 && i < length && i < MOST_SIGNS ? signs[i] : NONE;
        }

        private static boolean isDigit(int sign) {
            return sign >= '0' && sign <= '9';
        }

        private static boolean isLetter(int sign) {
            return sign >= 'a' && sign <= 'z' || sign >= 'A' && sign <= 'Z';
        }
    }

    /** The holidays, kept going up, so that one walk over them finds the next day that is none. */
    private static final class Holidays {
        private final int[] days = new int[MOST_HOLIDAYS];
        private int count = 0;

        boolean add(int day) {
            if (count >= MOST_HOLIDAYS || dayFrom(day) != day) {
                return false;
            }
            int place = count;
            while (place > 0 && days[place - 1] > day) {
                days[place] = days[place - 1];
                place--;
            }
            days[place] = day;
            count++;
            return true;
        }

        /** The day itself, or, if it is a holiday, the next one that is none. */
        int dayFrom(int day) {
            int free = day;
            for (int k = 0; k < count; k++) {
                if (days[k] == free) {
                    free++;
                }
            }
            return free;
        }
    }

    /** THE LIST: a row for each thing that is known of its issues. */
    private static final class IssueList {
        private final int[] steps = new int[MOST_ISSUES];
        private final int[] expected = new int[MOST_ISSUES];
        /** The last number of each issue as if none restarted. */
        private final int[] lastNumbers = new int[MOST_ISSUES];
        private final int[] numbers = new int[MOST_ISSUES];
        private final int[] told = new int[MOST_ISSUES];
        private final int[] toldSecond = new int[MOST_ISSUES];
        private final int[] volumes = new int[MOST_ISSUES];
        private final int[] patterns = new int[MOST_ISSUES];
        /** NONE while an issue has not COME. */
        private final int[] comeOn = new int[MOST_ISSUES];
        private int size = 0;

        boolean has(int i) {
            return i >= 0 && i < size;
        }

        /** There is such an issue, and it has not COME. */
        boolean isOut(int i) {
            return has(i) && comeOn[i] == NONE;
        }

        boolean hasComeFrom(int first) {
            for (int i = Math.max(0, first); i < size; i++) {
                if (!isOut(i)) {
                    return true;
                }
            }
            return false;
        }

        /** How many issues have steps before a day: the first ones, for steps go up. */
        int countBefore(int day) {
            int count = 0;
            while (count < size && steps[count] < day) {
                count++;
            }
            return count;
        }

        void cutTo(int left) {
            size = left;
        }

        /** Puts n issues more behind those that are there, fewer if foretelling ends. */
        void goOn(Pattern p, int day, int n, Holidays holidays) {
            int next = day;
            for (int k = 1; k <= n && size < MOST_ISSUES; k++) {
                int step = p.stepWithIssue(next);
                if (step == NONE) {
                    return;
                }
                int expects = holidays.dayFrom(step);
                if (expects > LAST_DAY) {
                    return;
                }
                put(p, step, expects, p.numbersOfIssue(k));
                next = step + p.stepDays;
            }
        }

        private void put(Pattern p, int step, int expects, int count) {
            int i = size;
            int first = i > 0 ? lastNumbers[i - 1] + 1 : 1;
            steps[i] = step;
            expected[i] = expects;
            lastNumbers[i] = first + count - 1;
            numbers[i] = count;
            told[i] = p.asTold(first);
            toldSecond[i] = count > 1 ? p.asTold(first + 1) : 0;
            volumes[i] = p.volumeOf(first);
            patterns[i] = p.place;
            comeOn[i] = NONE;
            size++;
        }

        private boolean isOverdue(int i, int day) {
            return isOut(i) && expected[i] < day;
        }

        int countOverdue(int day) {
            int count = 0;
            for (int i = 0; i < size; i++) {
                if (isOverdue(i, day)) {
                    count++;
                }
            }
            return count;
        }

        /** The overdue issue that is claimed next behind the one at a place, or first, behind NONE. */
        int nextOverdue(int day, int behind) {
            int best = NONE;
            for (int i = 0; i < size; i++) {
                boolean follows = isOverdue(i, day) && (behind == NONE || isClaimedBefore(behind, i));
                if (follows && (best == NONE || isClaimedBefore(i, best))) {
                    best = i;
                }
            }
            return best;
        }

        /** Whoever expects the earlier day is later by more. */
        private boolean isClaimedBefore(int i, int j) {
            if (!has(i) || !has(j)) {
                return false;
            }
            return expected[i] != expected[j] ? expected[i] < expected[j] : i < j;
        }
    }
}
