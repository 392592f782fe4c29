/** Promises 1 to 8, 33 and 34: works, runners, the plan, changes. */
public final class WorksAndPlanTest {
    private static final Check C = new Check();

    private static void newObject() {
        FitOnDay x = new FitOnDay();
        int[] due = {1, 0, 0, 0, 0, 0, 0, 0, 0};
        for (int what = 0; what < due.length; what++) C.due("new: count(" + what + ")", x.count(what), due[what]);
        for (int day = 0; day < 120; day++) C.due("new: of(" + day + ")", x.of(day), 0);
        for (int shelf = 0; shelf < 6; shelf++) C.due("new: taken", x.taken(shelf, 0), -11);
        C.due("new: lost", x.lost(14), 14);
        C.due("new: undo", x.undo(), FitOnDay.STATE);
        C.due("new: redo", x.redo(), FitOnDay.STATE);
    }

    private static void works() {
        FitOnDay x = new FitOnDay();
        C.due("work(-1)", x.work(-1), -1);
        C.due("work(100000)", x.work(100000), -1);
        C.due("work(min)", x.work(Integer.MIN_VALUE), -1);
        C.due("work(12345)", x.work(12345), 1);
        C.due("work(0)", x.work(0), 2);
        C.due("work(99999)", x.work(99999), 3);
        C.due("work(1)", x.work(1), 4);
        C.due("work(10)", x.work(10), 5);
        C.due("a sixth", x.work(10), -3);
        C.due("BAD ahead of FULL", x.work(-1), -1);
        C.due("count(0)", x.count(0), 6);
        x.runner(500500, 1000);
        C.due("12 tires, 34 strengthens", x.points(0, 1, 0), 34000 - 12000);
        C.due("1 strengthens", x.points(0, 5, 0), 1000);
        C.due("hours alone", x.points(0, 4, 0), 0);
        C.due("99 and 99", x.points(0, 3, 0), 0);
        C.due("mend tires", x.mend(1, 0, 99), 12);
        C.due("mend strengthens", x.mend(1, 1, 0), 34);
        C.due("mended", x.points(0, 1, 0), -99000);
        C.due("mend to the same", x.mend(1, 0, 99), 99);
        C.due("mend rest", x.mend(0, 0, 1), -1);
        C.due("mend none", x.mend(6, 0, 1), -1);
        C.due("mend below", x.mend(-1, 0, 1), -1);
        C.due("mend what 2", x.mend(1, 2, 1), -1);
        C.due("mend what -1", x.mend(1, -1, 1), -1);
        C.due("mend to 100", x.mend(1, 0, 100), -1);
        C.due("mend to -1", x.mend(1, 1, -1), -1);
        C.due("as it was", x.points(0, 1, 0), -99000);
        C.due("no work to mend", new FitOnDay().mend(1, 0, 1), -1);
    }

    private static void runners() {
        FitOnDay x = new FitOnDay();
        int[] bad = {-1, 0, 999, 1000, 1000001, -1001, Integer.MIN_VALUE, Integer.MAX_VALUE, 5000};
        for (int fs : bad) C.due("runner(" + fs + ")", x.runner(fs, 1000), -1);
        C.due("gift 499", x.runner(1001, 499), -1);
        C.due("gift 1501", x.runner(1001, 1501), -1);
        C.due("first", x.runner(1001, 500), 0);
        C.due("second", x.runner(999999, 1500), 1);
        C.due("third", x.runner(500250, 1234), 2);
        C.due("fourth", x.runner(1999, 1000), 3);
        C.due("fifth", x.runner(999001, 1000), 4);
        C.due("sixth", x.runner(999001, 1000), -3);
        C.due("BAD ahead of FULL", x.runner(0, 1000), -1);
        C.due("count(1)", x.count(1), 5);
        x.work(1550); // 1 and 55
        // 55 * 1234 / 1000 = 67 (cut); a quarter of strength goes by, half of what tires
        C.due("gift and cut", x.points(2, 1, 0), 67000 - 1000);
        C.due("one day", x.points(2, 1, 1), 67 * 750 - 500);
        C.due("two days", x.points(2, 1, 2), 67 * 562 - 250);
        C.due("three days", x.points(2, 1, 3), 67 * 421 - 125);
        C.due("fast 1, slow 999", x.points(3, 1, 2), 55 * 0 - 998);
    }

    private static void plan() {
        FitOnDay x = new FitOnDay();
        x.work(10101);
        x.work(20202);
        C.due("plan(-1)", x.plan(-1, 0), -1);
        C.due("plan(120)", x.plan(120, 0), -1);
        C.due("plan no work", x.plan(5, 3), -1);
        C.due("plan work -1", x.plan(5, -1), -1);
        C.due("plan 5", x.plan(5, 1), 0);
        C.due("plan 5 again", x.plan(5, 2), 1);
        C.due("plan 5 the same", x.plan(5, 2), 2);
        C.due("plan 119", x.plan(119, 1), 0);
        C.due("of 5", x.of(5), 2);
        C.due("of 119", x.of(119), 1);
        C.due("of -1", x.of(-1), -1);
        C.due("of 120", x.of(120), -1);
        C.due("days that work", x.count(2), 2);
        C.due("changes", x.count(6), 3);
    }

    private static void shapes() {
        FitOnDay x = new FitOnDay();
        x.work(10101);
        x.plan(0, 1);
        C.due("sw -1", x.shape(-1, 0, 0), -1);
        C.due("sw 20", x.shape(20, 0, 0), -1);
        C.due("no such work", x.shape(2, 0, 0), -1);
        C.due("ab -1", x.shape(1, -1, 0), -1);
        C.due("a 8", x.shape(1, 80, 0), -1);
        C.due("b 8", x.shape(1, 8, 0), -1);
        C.due("ft -1", x.shape(1, 11, -1), -1);
        C.due("to 120", x.shape(1, 11, 120), -1);
        C.due("from 120", x.shape(1, 11, 120119), -1);
        C.due("to ahead of from", x.shape(1, 11, 3002), -1);
        C.due("nothing changed", x.of(0), 1);
        C.due("changes stay", x.count(6), 1);
        // even: the first 2 of 3..9, of 10..16, of 17..18
        C.due("even", x.shape(1, 27, 3018), 6);
        int[] works = {3, 4, 10, 11, 17, 18};
        int at = 0;
        for (int day = 0; day < 120; day++) {
            boolean due = at < works.length && works[at] == day;
            if (due) at++;
            C.due("even: of(" + day + ")", x.of(day), due ? 1 : 0);
        }
        C.due("no changes", x.undo(), -5);
        // build from 1 on with 3 more a week by quarters: 1, 1, 2, 3, 4 of 0, 7, 14, 21, 28 ..
        C.due("build", x.shape(11, 13, 34), 11);
        C.due("build of work 0", x.shape(10, 13, 34), 0);
        C.due("build from 60 on", x.shape(11, 13, 60094), 11);
        C.due("its week 4 has 4", x.of(91) * 10 + x.of(92), 10);
        C.due("build again", x.shape(11, 13, 34), 11);
        C.due("week 1 has 1", x.of(7) * 10 + x.of(8), 10);
        C.due("week 2 has 2", x.of(15) * 10 + x.of(16), 10);
        C.due("week 4 has 4", x.of(31) * 10 + x.of(32), 10);
        C.due("7 at most", x.shape(11, 77, 13), 14);
        C.due("even of rest", x.shape(0, 70, 119), 0);
        C.due("one day", x.shape(1, 10, 119119), 1);
        C.due("of 119", x.of(119), 1);
        C.due("a 0", x.shape(1, 7, 119), 0);
    }

    private static void weeks() {
        FitOnDay x = new FitOnDay();
        x.work(10101);
        x.work(20202);
        x.body(0);
        x.row(1, 1, 5);
        x.keep(2, 0);
        x.row(3, 0, 6);
        int[] told = {1, 2, 0, 1, 3, 1};
        for (int i = 0; i < 6; i++) x.put(3, i, told[i]);
        x.plan(0, 1);
        C.due("day -1", x.weeks(-1, 3, 0, 1), -1);
        C.due("day 120", x.weeks(120, 3, 0, 1), -1);
        C.due("shelf 6", x.weeks(0, 6, 0, 1), -1);
        C.due("shelf -1", x.weeks(0, -1, 0, 1), -1);
        C.due("n 0", x.weeks(0, 3, 0, 0), -1);
        C.due("n 61", x.weeks(0, 3, 0, 61), -1);
        C.due("BAD ahead of -12", x.weeks(0, 1, 0, 0), -1);
        C.due("shorts", x.weeks(0, 1, 0, 1), -12);
        C.due("a plan", x.weeks(0, 2, 0, 1), -12);
        C.due("changes stay", x.count(6), 1);
        C.due("one is no work", x.weeks(10, 3, 0, 6), 4);
        C.due("changes are none", x.count(6), 0);
        for (int i = 0; i < 4; i++) C.due("came " + i, x.of(10 + i), told[i]);
        C.due("behind them", x.of(14), 0);
        C.due("as many as told", x.weeks(20, 3, 1, 2), 2);
        C.due("of 20", x.of(20), 2);
        C.due("of 22", x.of(22), 0);
        C.due("the row ends", x.weeks(30, 3, 5, 9), 1);
        C.due("behind its end", x.weeks(30, 3, 6, 1), 0);
        C.due("far behind", x.weeks(30, 3, Integer.MAX_VALUE, 2), 0);
        C.due("ahead of it", x.weeks(30, 3, -1, 3), 0);
        C.due("missing", x.weeks(30, 0, 0, 3), 0);
        C.due("behind day 119", x.weeks(118, 3, 0, 4), 2);
        C.due("of 119", x.of(119), 2);
        x.put(3, 0, 255);
        C.due("-1 is no work", x.weeks(40, 3, 0, 1), 0);
        x.row(3, 0, 0);
        C.due("an empty row", x.weeks(40, 3, 0, 1), 0);
        x.row(3, 0, 60);
        C.due("60 of rest", x.weeks(0, 3, 0, 60), 60);
        C.due("rest came", x.of(10), 0);
    }

    private static void changes() {
        FitOnDay x = new FitOnDay();
        x.work(10101);
        x.plan(3, 1);
        x.mend(1, 0, 20);
        x.mend(1, 1, 30);
        x.plan(3, 1);
        x.mend(1, 1, 30);
        C.due("telling the same is none", x.count(6), 3);
        x.runner(500500, 1000);
        C.due("mended", x.points(0, 1, 0), 10000);
        C.due("undo strengthens", x.undo(), 2);
        C.due("10 and 20", x.points(0, 1, 0), -10000);
        C.due("undo tires", x.undo(), 1);
        C.due("10 and 10", x.points(0, 1, 0), 0);
        C.due("undo the day", x.undo(), 0);
        C.due("rest", x.of(3), 0);
        C.due("undo none", x.undo(), -5);
        C.due("redo the day", x.redo(), 2);
        C.due("work", x.of(3), 1);
        C.due("redo tires", x.redo(), 1);
        C.due("20 and 10", x.points(0, 1, 0), -10000);
        C.due("the same again", x.plan(3, 1), 1);
        C.due("still one to redo", x.redo(), 0);
        C.due("redo none", x.redo(), -5);
        x.undo();
        x.plan(4, 1);
        C.due("another came behind", x.redo(), -5);
        C.due("changes", x.count(6), 3);
        x.shape(1, 0, 0);
        C.due("none behind a shape", x.undo(), -5);
        C.due("the work stays mended", x.points(0, 1, 0), -10000);
        for (int i = 0; i < 45; i++) x.plan(i, 1);
        C.due("40 are kept", x.count(6), 40);
        for (int i = 39; i >= 0; i--) C.due("undo " + i, x.undo(), i);
        C.due("no more", x.undo(), -5);
        C.due("day 4 stays", x.of(4), 1);
        C.due("day 5 does not", x.of(5), 0);
        for (int i = 39; i >= 0; i--) C.due("redo " + i, x.redo(), i);
        C.due("day 44", x.of(44), 1);
        x.undo();
        x.feel(0, 1);
        C.due("none behind by feel", x.redo(), -5);
        C.due("nor to undo", x.undo(), -5);
        x.plan(60, 1);
        x.undo();
        x.weeks(0, 0, 0, 1);
        C.due("none behind weeks", x.redo(), -5);
    }

    private static void oldestChangesFall() {
        FitOnDay x = new FitOnDay();
        x.runner(500500, 1000);
        x.work(10100);
        x.work(10100);
        x.plan(0, 1);
        x.plan(1, 1);
        x.mend(1, 0, 11);
        x.mend(2, 1, 12);
        for (int i = 0; i < 38; i++) x.plan(50 + i, 2);
        C.due("40 of 42", x.count(6), 40);
        for (int i = 39; i >= 2; i--) C.due("undo", x.undo(), i);
        C.due("days are undone", x.count(2), 2);
        C.due("mended still", x.points(0, 2, 0), 2000);
        C.due("undo strengthens of 2", x.undo(), 1);
        C.due("as it was", x.points(0, 2, 0), 0);
        C.due("mended still", x.points(0, 1, 0), -1000);
        C.due("undo tires of 1", x.undo(), 0);
        C.due("as it was", x.points(0, 1, 0), 0);
        C.due("the oldest can't", x.undo(), -5);
        C.due("the oldest stay", x.of(0) * 10 + x.of(1), 11);
        C.due("redo tires of 1", x.redo(), 39);
        C.due("again", x.points(0, 1, 0), -1000);
        C.due("redo strengthens of 2", x.redo(), 38);
        C.due("again", x.points(0, 2, 0), 2000);
        C.due("redo a day", x.redo(), 37);
        C.due("the first of them", x.of(50), 2);
        C.due("not the second", x.of(51), 0);
    }

    public static void main(String[] args) {
        newObject();
        works();
        runners();
        plan();
        shapes();
        weeks();
        changes();
        oldestChangesFall();
        C.end();
    }
}
