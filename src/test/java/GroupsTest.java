/** Promises 26 to 32: tests, groups, colds, lines, years. */
public final class GroupsTest {
    private static final int VOID = FitOnDay.VOID;
    private static final Check C = new Check();

    /** Runner 0: half of both goes by a day. Runner 1: what tires is gone soon, strength goes by tenths, gift 1500.
        Work 1: 10 and 20; work 2: 30 and 10. */
    private static FitOnDay made() {
        FitOnDay x = new FitOnDay();
        x.runner(500500, 1000);
        x.runner(999100, 1500);
        x.work(10200);
        x.work(30100);
        return x;
    }

    private static void tests() {
        FitOnDay x = made();
        C.due("none yet", x.who(-1), -5);
        C.due("none yet", x.who(0), -5);
        C.due("BAD ahead of STATE", x.who(2), -1);
        C.due("day -1", x.test(-1, 0), -1);
        C.due("day 120", x.test(120, 0), -1);
        C.due("found 10000", x.test(0, 10000), -1);
        C.due("found -10000", x.test(0, -10000), -1);
        x.plan(0, 1);
        // on day 1: runner 0 5, runner 1 30 * 900 - 10 = 26 (cut)
        C.due("first", x.test(1, 10), 0);
        C.due("who", x.who(-1), 0);
        C.due("think: 5 of 21", x.who(0), 1000 - 5000 / 21);
        C.due("think: 16 of 21", x.who(1), 1000 - 16000 / 21);
        C.due("second", x.test(1, 20), 1);
        C.due("20 by 0, 22 by 1", x.who(-1), 0);
        C.due("third", x.test(1, 26), 2);
        C.due("who now", x.who(-1), 1);
        C.due("think", x.who(1), 1000 - 22000 / (5 + 15 + 21 + 22));
        for (int i = 3; i < 10; i++) C.due("more", x.test(i, 9999 - 19998 * (i % 2)), i);
        C.due("FULL", x.test(0, 0), -3);
        C.due("BAD ahead of FULL", x.test(120, 0), -1);
        C.due("count(5)", x.count(5), 10);
        FitOnDay y = new FitOnDay();
        y.test(0, 0);
        C.due("no runners", y.who(-1), -5);
        C.due("no such runner", y.who(0), -1);
        y.runner(500500, 1000);
        y.runner(500500, 1000);
        C.due("sums 0: the first", y.who(-1), 0);
        C.due("sums 0: 1000", y.who(1), 1000);
        C.due("-2", y.who(-2), -1);
    }

    private static void groups() {
        FitOnDay x = made();
        C.due("no runners", new FitOnDay().group(0, 2), -5);
        C.due("BAD ahead of STATE", new FitOnDay().group(0, 3), VOID);
        C.due("what -1", x.group(0, -1), VOID);
        C.due("day 120", x.group(120, 0), VOID);
        C.due("day -1", x.group(-1, 0), VOID);
        C.due("alike: the first", x.group(0, 1), 0);
        x.plan(0, 2);
        // 10 - 30; 15 - 30
        C.due("least", x.group(0, 0), -20000);
        C.due("who", x.group(0, 1), 0);
        x.plan(0, 1);
        C.due("least of two", x.group(1, 0), 5000);
        C.due("nothing counts: rest", x.group(1, 2), 0);
        x.counts(1, 1);
        C.due("work 1", x.group(1, 2), 1);
        C.due("behind: rest", x.group(2, 2), 0);
        FitOnDay y = new FitOnDay();
        y.runner(500900, 1000);
        y.runner(900500, 1000);
        y.work(10300);
        y.work(0);
        y.counts(1, 1);
        // a day ahead: runner 0 has 30 * 100 - 10 * 500 = -2000, runner 1 30 * 500 - 10 * 100
        C.due("not for the one that loses", y.group(0, 2), 0);
        y.plan(1, 1);
        C.due("on the day for both", y.group(1, 2), 1);
        C.due("the plan stays", y.of(0), 0);
    }

    /** Three runners; the last one gains least but for the works that the middle one can't bear. */
    private static void ofThree() {
        FitOnDay x = new FitOnDay();
        x.runner(999100, 1000);
        x.runner(100999, 1000);
        x.runner(900300, 900);
        x.work(10300);
        x.work(20600);
        x.work(100);
        x.counts(2, 1);
        x.plan(0, 2);
        x.plan(2, 1);
        C.due("least", x.group(2, 0), x.fit(1002, 0));
        C.due("who", x.group(2, 1), 1);
        C.due("on the day: who", x.group(0, 1), 2);
        C.due("on the day: least", x.group(0, 0), 54000 - 20000);
        for (int day = 0; day < 4; day++) {
            int[] least = new int[4];
            for (int w = 0; w < 4; w++) {
                int was = x.plan(day, w);
                least[w] = Math.min(x.gained(0), Math.min(x.gained(1), x.gained(2)));
                x.plan(day, was);
            }
            int due = 0;
            for (int w = 1; w < 4; w++) if (least[w] > least[due]) due = w;
            C.due("work of day " + day, x.group(day, 2), due);
        }
    }

    private static void alike() {
        FitOnDay x = made();
        C.due("one and the same", x.alike(11), -1);
        C.due("no such one", x.alike(20), -1);
        C.due("no such other", x.alike(2), -1);
        C.due("below", x.alike(-1), -1);
        C.due("10 times no one", x.alike(100), -1);
        C.due("all rest", x.alike(1), 0);
        x.plan(117, 1);
        C.due("1 from there on", x.alike(10), 3);
        C.due("0 never", x.alike(1), 0);
        x.plan(0, 1);
        int fitter = 0;
        for (int d = 0; d < 120; d++) if (x.fit(1000 + d, 0) > x.fit(d, 0)) fitter++;
        C.holds("more from day 0 on", fitter > 40);
        C.due("on day 0 too", x.alike(10), fitter);
        x.plan(0, 0);
        x.mend(1, 1, 0);
        // 0 is tired longer
        C.due("alike on the day", x.alike(10), 2);
    }

    private static void colds() {
        FitOnDay x = made();
        x.counts(119, 2);
        x.plan(119, 2);
        x.plan(118, 1);
        C.due("the last day", x.cold(119, 1), 40000);
        C.due("both", x.cold(118, 30), 40000 - 2 * 5000);
        C.due("the one", x.cold(118, 1), -10000);
        C.due("ahead of it", x.cold(88, 30), 0);
        C.due("into it", x.cold(89, 30), -10000);
        C.due("in thought", x.of(118), 1);
        C.due("n 0", x.cold(0, 0), VOID);
        C.due("n 31", x.cold(0, 31), VOID);
        C.due("runner 2", x.cold(2000, 1), VOID);
        C.due("day 120", x.cold(120, 1), VOID);
        C.due("below", x.cold(-1, 1), VOID);
    }

    private static void lines() {
        FitOnDay x = made();
        C.due("nothing counts", x.lines(0, 100, 0), -2);
        C.due("nothing counts", x.lines(0, 100, 1), -2);
        C.due("BAD ahead of NOT", x.lines(0, 300, 0), VOID);
        x.counts(2, 9);
        x.counts(10, 1);
        // days 1, 3, 5, 8, 10: 9 * 5000 + 10, 10 * 7, 10 * 31, 10 * 250, 10 * 1000
        int all = 45000 + 10 + 70 + 310 + 2500 + 10000;
        C.due("to the last", x.lines(0, 100, 0), all);
        C.due("e 1", x.lines(0, 101, 0), all - 10000);
        C.due("e 2", x.lines(0, 102, 0), all - 10000);
        C.due("e 3", x.lines(0, 103, 0), all - 12500);
        C.due("e 9", x.lines(0, 109, 0), 45010);
        C.due("e 10", x.lines(0, 110, 0), 0);
        C.due("e 99", x.lines(0, 199, 0), 0);
        C.due("rest", x.lines(0, 50, 0), 0);
        C.due("loses", x.lines(0, 100, 1), x.best(0, 3, -1) - all);
        C.due("loses all", x.lines(0, 199, 1), x.best(0, 3, -1));
        C.due("what 2", x.lines(0, 100, 2), VOID);
        C.due("what -1", x.lines(0, 100, -1), VOID);
        C.due("runner 2", x.lines(2, 100, 0), VOID);
        C.due("we -1", x.lines(0, -1, 0), VOID);
        C.due("the plan stays", x.count(2), 0);
    }

    private static void years() {
        FitOnDay x = made();
        C.due("nw 9", x.years(0, 1, 9), VOID);
        C.due("nw -10", x.years(0, 1, -10), VOID);
        C.due("n 51", x.years(0, 1, 510), VOID);
        C.due("what 2", x.years(0, 1, 12), VOID);
        C.due("runner 2", x.years(2, 1, 10), VOID);
        C.due("runner -1", x.years(-1, 1, 10), VOID);
        C.due("no law", x.years(0, 1, 500), 0);
        C.due("nothing counts", x.years(0, 1, 501), -2);
        Check.take(x, 1, "1000");
        C.due("each 15th day of 120", x.years(0, 1, 10), 8);
        C.due("ten years", x.years(0, 1, 100), 80);
        x.lost(60);
        C.due("each 61st", x.years(0, 1, 10), 2);
        x.counts(2, 1);
        for (int d = 0; d < 3; d++) x.plan(d, 1);
        C.due("rest behind day 0", x.years(0, 5, 31), 2500);
        Check.take(x, 1, "d=1?500;0");
        int z = 77;
        int hurt = 0;
        int fit = 0;
        for (int year = 0; year < 4; year++) {
            boolean was = false;
            for (int d = 0; d < 120; d++) {
                z = z * 1103515245 + 12345;
                if (d == 1 && (z >>> 8) % 1000 < 500) {
                    was = true;
                    hurt++;
                    d += 60;
                }
            }
            fit += 2500 + 5000 + (was ? 0 : 10000);
        }
        C.due("drawn", x.years(0, 77, 40), hurt);
        C.due("mean fit", x.years(0, 77, 41), fit / 4);
        C.due("the plan stays", x.count(2), 3);
    }

    public static void main(String[] args) {
        tests();
        groups();
        ofThree();
        alike();
        colds();
        lines();
        years();
        C.end();
    }
}
