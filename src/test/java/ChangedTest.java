/** Promise 5: the list goes on by another pattern. */
public final class ChangedTest {
    public static void main(String[] args) {
        inTheMiddle();
        volumesAndDoubles();
        stepsMatter();
        nothingHappens();
        fewerComeBack();
        Check.end();
    }

    private static void inTheMiddle() {
        PatternText x = Check.with("every 10 days", "every 3 days");
        x.foretell(0, 0, 5);
        Check.due("on a step", x.changed(1, 20), 3);
        Check.dates("on a step", x, 0, 10, 20, 23, 26);
        Check.issues("on a step", x, 4, 0, 0, 1, 1, 1);
        Check.issues("on a step", x, 0, 1, 2, 3, 4, 5);
        Check.due("between steps", x.changed(0, 24), 1);
        Check.dates("between steps", x, 0, 10, 20, 23, 24);
        Check.due("by the same one", x.changed(0, 5), 4);
        Check.dates("by the same one", x, 0, 5, 15, 25, 35);
        Check.due("behind all", x.changed(1, 36), 0);
        Check.dates("behind all", x, 0, 5, 15, 25, 35);
        Check.due("all", x.changed(1, 0), 5);
        Check.dates("all", x, 0, 3, 6, 9, 12);
        Check.issues("from 1 on", x, 0, 1, 2, 3, 4, 5);
        Check.due("on the last", x.changed(1, 12), 1);
        x.foretell(0, 50, 3);
        Check.due("a day before the first", x.changed(1, 7), 3);
        Check.dates("a day before the first", x, 7, 10, 13);
    }

    private static void volumesAndDoubles() {
        PatternText x = Check.with("every 10 days joined 2 volume 3 restart", "every 1 days joined 3 volume 4 restart", "every 1 days", "every 1 days volume 2");
        x.foretell(0, 0, 8);
        Check.issues("before", x, 0, 1, 2, 1, 2, 1, 2, 1, 2);
        Check.due("behind a double one", x.changed(1, 20), 6);
        Check.issues("numbers 4, 5, 6 and 7, 8, 9, 10 and 11", x, 0, 1, 2, 4, 1, 2, 4, 1, 2);
        Check.issues("doubles from the first new one", x, 1, 1, 2, 1, 1, 2, 1, 1, 2);
        Check.issues("second numbers", x, 3, 0, 3, 0, 0, 3, 0, 0, 3);
        Check.issues("volumes", x, 2, 1, 1, 1, 2, 2, 2, 3, 3);
        Check.due("again", x.changed(2, 23), 3);
        Check.issues("again, as if none restarted", x, 0, 1, 2, 4, 1, 2, 8, 9, 10);
        Check.issues("again, no volumes", x, 2, 1, 1, 1, 2, 2, 0, 0, 0);
        Check.issues("again, patterns", x, 4, 0, 0, 1, 1, 1, 2, 2, 2);
        Check.due("and again", x.changed(3, 24), 2);
        Check.issues("and again, volumes", x, 2, 1, 1, 1, 2, 2, 0, 5, 5);
    }

    private static void stepsMatter() {
        PatternText x = Check.with("every 10 days", "every 2 days");
        x.holiday(10);
        x.holiday(11);
        x.foretell(0, 0, 4);
        Check.dates("with holidays", x, 0, 12, 20, 30);
        x.irregular(2, 500);
        x.irregular(3, 5);
        Check.due("the holiday does not matter", x.changed(1, 11), 2);
        Check.dates("irregular days are gone", x, 0, 12, 12, 13);
        x.irregular(0, 900);
        Check.due("steps at 0, 10, 11, 13", x.changed(0, 12), 1);
        Check.due("irregular ones before stay", x.date(0), 900);
        Check.due("the new one", x.date(3), 12);
    }

    private static void nothingHappens() {
        PatternText x = Check.with("every 10 days", "every 2 days");
        x.foretell(0, 0, 4);
        x.came(2, 25);
        Check.due("no such pattern", x.changed(2, 0), -1);
        Check.due("no such pattern", x.changed(-1, 0), -1);
        Check.due("no such day", x.changed(1, -1), -1);
        Check.due("no such day", x.changed(1, 1000001), -1);
        Check.due("one of them has come", x.changed(1, 20), -1);
        Check.due("one of them has come", x.changed(1, 5), -1);
        Check.dates("nothing happened", x, 0, 10, 20, 30);
        Check.issues("nothing happened", x, 4, 0, 0, 0, 0);
        Check.due("the one that has come stays", x.changed(1, 21), 1);
        Check.dates("the one that has come stays", x, 0, 10, 20, 21);
        Check.issues("the one that has come stays", x, 5, 0, 0, 1, 0);
        Check.due("behind all, though one has come", x.changed(1, 1000000), 0);
        x.foretell(0, 0, 2);
        Check.due("come is forgotten with the list", x.changed(1, 0), 2);
    }

    private static void fewerComeBack() {
        PatternText x = Check.with("every 10 days", "every 7 days skip 0,1,2,3,4,5,6,7,8,9,10,11", "every 99 months skip 2");
        x.foretell(0, 0, 6);
        Check.due("nothing is foretold", x.changed(1, 30), 3);
        Check.dates("nothing is foretold", x, 0, 10, 20);
        Check.due("no more than were taken", x.changed(0, 20), 1);
        Check.dates("no more than were taken", x, 0, 10, 20);
        Check.due("the end of days", x.foretell(0, 999960, 5), 5);
        Check.due("the end of days", x.changed(0, 999975), 3);
        Check.dates("the end of days", x, 999960, 999970, 999975, 999985, 999995);
        Check.due("fewer before the end of days", x.changed(0, 999983), 2);
        Check.dates("fewer before the end of days", x, 999960, 999970, 999975, 999983, 999993);
        Check.due("fewer still", x.changed(2, 999961), 4);
        Check.dates("fewer still", x, 999960, 999961);
    }
}
