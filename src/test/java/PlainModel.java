import java.util.ArrayList;
import java.util.Comparator;
import java.util.List;
import java.util.TreeSet;
import java.util.regex.Matcher;
import java.util.regex.Pattern;

/** The document once more, written with the Java library and without regard to speed or room. */
final class PlainModel {
    private static final int LAST = 1000000;

    private static final class Wrong extends Exception {
        private static final long serialVersionUID = 1;
        final int place;

        Wrong(int place) {
            this.place = place;
        }
    }

    private static final class Rule {
        String text;
        int step;
        final TreeSet<Integer> skip = new TreeSet<>();
        int joined = Integer.MAX_VALUE;
        int volume;
        boolean restart;

        boolean issueOn(int day) {
            return !skip.contains(day / 30 % 12);
        }
    }

    private static final class Issue {
        int pattern;
        Rule rule;
        int step;
        int expects;
        int first;
        int numbers;
        Integer come;

        int told(int number) {
            int n = number;
            while (rule.restart && n > rule.volume) {
                n -= rule.volume;
            }
            return n;
        }

        int volume() {
            int v = 1;
            for (int n = first; rule.volume != 0 && n > rule.volume; n -= rule.volume) {
                v++;
            }
            return rule.volume == 0 ? 0 : v;
        }
    }

    private final StringBuilder collected = new StringBuilder();
    private final List<Rule> rules = new ArrayList<>();
    private final TreeSet<Integer> holidays = new TreeSet<>();
    private List<Issue> list = new ArrayList<>();
    private String printed = "";

    private List<String> tokens;
    private int token;

    void sign(int c) {
        if (collected.length() < 120) {
            collected.append((char) (c & 255));
        }
    }

    int read() {
        String text = collected.toString();
        collected.setLength(0);
        try {
            Rule r = parse(text);
            if (rules.size() == 10) {
                return -200;
            }
            rules.add(r);
            return rules.size() - 1;
        } catch (Wrong w) {
            return -1 - w.place;
        }
    }

    private Rule parse(String text) throws Wrong {
        tokens = new ArrayList<>();
        token = 0;
        Matcher m = Pattern.compile("[A-Za-z]+|[0-9]+|.", Pattern.DOTALL).matcher(text);
        while (m.find()) {
            tokens.add(m.group());
        }
        Rule r = new Rule();
        r.text = text;
        need("every");
        need(" ");
        int n = number(1, 99);
        need(" ");
        int unit = List.of("days", "weeks", "months").indexOf(seen());
        if (unit < 0) {
            throw new Wrong(place());
        }
        r.step = n * new int[] {1, 7, 30}[unit];
        token++;
        int stage = -1;
        while (token < tokens.size()) {
            need(" ");
            int clause = List.of("skip", "joined", "volume", "restart").indexOf(seen());
            if (clause <= stage || clause == 3 && stage != 2) {
                throw new Wrong(place());
            }
            token++;
            stage = clause;
            parseClause(r, clause);
        }
        return r;
    }

    private void parseClause(Rule r, int clause) throws Wrong {
        if (clause == 3) {
            r.restart = true;
            return;
        }
        need(" ");
        if (clause == 1) {
            r.joined = number(2, 99);
        } else if (clause == 2) {
            r.volume = number(1, 99);
        } else {
            r.skip.add(number(0, 11));
            while (seen().equals(",")) {
                token++;
                r.skip.add(number(r.skip.last() + 1, 11));
            }
        }
    }

    private String seen() {
        return token < tokens.size() ? tokens.get(token) : "";
    }

    private int place() {
        return String.join("", tokens.subList(0, token)).length();
    }

    private void need(String word) throws Wrong {
        if (!seen().equals(word)) {
            throw new Wrong(place());
        }
        token++;
    }

    private int number(int low, int high) throws Wrong {
        String s = seen();
        if (!s.matches("0|[1-9][0-9]?") || Integer.parseInt(s) < low || Integer.parseInt(s) > high) {
            throw new Wrong(place());
        }
        token++;
        return Integer.parseInt(s);
    }

    private boolean noRule(int pattern) {
        return pattern < 0 || pattern >= rules.size();
    }

    private static boolean noDay(int day) {
        return day < 0 || day > LAST;
    }

    private boolean noIssue(int i) {
        return i < 0 || i >= list.size();
    }

    private void goOn(int pattern, int day, int n) {
        Rule r = rules.get(pattern);
        int next = day;
        int k = 0;
        for (int s = day; k < n && s - next < 1800; s += r.step) {
            if (!r.issueOn(s)) {
                continue;
            }
            Issue e = new Issue();
            e.expects = s;
            while (holidays.contains(e.expects)) {
                e.expects++;
            }
            if (e.expects > LAST) {
                return;
            }
            k++;
            Issue last = list.isEmpty() ? null : list.get(list.size() - 1);
            e.pattern = pattern;
            e.rule = r;
            e.step = s;
            e.first = last == null ? 1 : last.first + last.numbers;
            e.numbers = k % r.joined == 0 ? 2 : 1;
            list.add(e);
            next = s + r.step;
        }
    }

    int foretell(int pattern, int day, int n) {
        if (noRule(pattern) || noDay(day) || n < 1 || n > 100) {
            return -1;
        }
        list = new ArrayList<>();
        goOn(pattern, day, n);
        return list.size();
    }

    int changed(int pattern, int day) {
        if (noRule(pattern) || noDay(day) || list.stream().anyMatch(e -> e.step >= day && e.come != null)) {
            return -1;
        }
        int before = list.size();
        list.removeIf(e -> e.step >= day);
        int taken = before - list.size();
        goOn(pattern, day, taken);
        return taken;
    }

    int issue(int i, int what) {
        if (noIssue(i) || what < 0 || what > 5) {
            return -1;
        }
        Issue e = list.get(i);
        return new int[] {e.told(e.first), e.numbers, e.volume(), e.numbers == 2 ? e.told(e.first + 1) : 0, e.pattern, e.come == null ? 0 : 1}[what];
    }

    long date(int i) {
        return noIssue(i) ? -1 : list.get(i).expects;
    }

    int irregular(int i, int day) {
        if (noIssue(i) || noDay(day) || list.get(i).come != null) {
            return 0;
        }
        list.get(i).expects = day;
        return 1;
    }

    int holiday(int day) {
        return noDay(day) || holidays.size() == 60 || !holidays.add(day) ? 0 : holidays.size();
    }

    int came(int i, int day) {
        if (noIssue(i) || noDay(day) || list.get(i).come != null) {
            return 0;
        }
        list.get(i).come = day;
        return 1;
    }

    int late(int i, int day) {
        if (noIssue(i) || noDay(day)) {
            return -1;
        }
        Issue e = list.get(i);
        return Math.max(0, (e.come == null ? day : e.come) - e.expects);
    }

    int claim(int day, int i) {
        List<Issue> late = new ArrayList<>(list);
        late.removeIf(e -> e.come != null || e.expects >= day);
        late.sort(Comparator.comparingInt(e -> e.expects - day));
        return noDay(day) || i < 0 || i >= late.size() ? -1 : list.indexOf(late.get(i));
    }

    int print(int pattern) {
        if (noRule(pattern)) {
            return 0;
        }
        printed = rules.get(pattern).text;
        return printed.length();
    }

    int at(int i) {
        return i < 0 || i >= printed.length() ? -1 : printed.charAt(i);
    }

    int yearly(int pattern, int day, int each) {
        if (noRule(pattern) || noDay(day)) {
            return -1;
        }
        int count = 0;
        for (int d = 0; d < 360 && day + d <= 1000000; d++) {
            count += d % rules.get(pattern).step == 0 && rules.get(pattern).issueOn(day + d) ? 1 : 0;
        }
        return count / each;
    }
}
