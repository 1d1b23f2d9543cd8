/** Promise 1: a new object has no patterns, no holidays, nothing collected, and an empty list. */
public final class NewObjectTest {
    public static void main(String[] args) {
        PatternText x = new PatternText();
        Check.due("NONE", PatternText.NONE, -1);
        Check.due("foretell without patterns", x.foretell(0, 0, 1), -1);
        Check.due("changed without patterns", x.changed(0, 0), -1);
        Check.due("yearly without patterns", x.yearly(0, 0, 1), -1);
        Check.due("print without patterns", x.print(0), 0);
        Check.due("at, nothing printed", x.at(0), -1);
        for (int what = -1; what <= 6; what++) {
            Check.due("issue of the empty list", x.issue(0, what), -1);
        }
        Check.due("date of the empty list", x.date(0), -1);
        Check.due("irregular in the empty list", x.irregular(0, 1), 0);
        Check.due("came in the empty list", x.came(0, 1), 0);
        Check.due("late in the empty list", x.late(0, 1), -1);
        Check.due("claim in the empty list", x.claim(1000000, 0), -1);
        Check.due("the first holiday", x.holiday(0), 1);
        Check.due("read of nothing", x.read(), -1);
        Check.due("the first pattern", Check.read(x, "every 1 days"), 0);
        Check.due("changed with the empty list", x.changed(0, 0), 0);
        Check.due("nothing was foretold by it", x.date(0), -1);
        Check.due("another object knows nothing of it", new PatternText().print(0), 0);
        Check.end();
    }
}
