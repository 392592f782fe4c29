/** Promises 9 to 18: fitness. */
public final class FitnessTest {
    private static final int VOID = FitOnDay.VOID;
    private static final Check C = new Check();

    /** Runner 0: half goes by a day of both. Runner 1: what tires is gone soon, strength goes by tenths.
        Work 1: 10 and 20; work 2: 30 and 10; work 3: 0 and 20, as good on the mean as 1 is not. */
    private static FitOnDay made() {
        FitOnDay x = new FitOnDay();
        x.runner(500500, 1000);
        x.runner(999100, 1500);
        x.work(10200);
        x.work(30100);
        x.work(200);
        return x;
    }

    private static void fit() {
        FitOnDay x = made();
        x.plan(0, 1);
        x.plan(2, 2);
        C.due("day 0", x.fit(0, 0), 10000);
        C.due("day 1", x.fit(1, 0), 5000);
        C.due("day 2 strong", x.fit(2, 1), 20 * 250 + 10 * 1000);
        C.due("day 2 tired", x.fit(2, 2), 10 * 250 + 30 * 1000);
        C.due("day 2 fit", x.fit(2, 0), 15000 - 32500);
        C.due("day 5", x.fit(5, 2), 10 * 31 + 30 * 125);
        C.due("all gone", x.fit(119, 0), 0);
        // 20 * 1500 / 1000 = 30, 10 * 1500 / 1000 = 15
        C.due("runner 1 strong", x.fit(1002, 1), 30 * 810 + 15 * 1000);
        C.due("runner 1 tired", x.fit(1003, 2), 10 * 0 + 30 * 1);
        C.due("no such runner", x.fit(2000, 0), VOID);
        C.due("no such day", x.fit(120, 0), VOID);
        C.due("below", x.fit(-1, 0), VOID);
        C.due("what 3", x.fit(0, 3), VOID);
        C.due("what -1", x.fit(0, -1), VOID);
    }

    /** A runner's number and a day are told in one: five runners, a work each on the first and the last day. */
    private static void runnersAndDays() {
        FitOnDay x = new FitOnDay();
        x.work(10200);
        for (int r = 0; r < 5; r++) x.runner(500500, 1000 + 100 * r);
        x.plan(0, 1);
        x.plan(119, 1);
        x.counts(119, 1);
        x.counts(0, 1);
        for (int r = 0; r < 5; r++) {
            int strong = 20 + 2 * r;
            C.due("strong", x.fit(1000 * r + 119, 1), strong * 1000);
            C.due("tired", x.fit(1000 * r + 119, 2), 10000);
            C.due("fit on 0", x.fit(1000 * r, 0), strong * 1000 - 10000);
            C.due("fit on 1", x.fit(1000 * r + 1, 0), strong * 500 - 5000);
            C.due("worth on 119", x.worth(1000 * r + 119, 1), strong * 1000 - 10000);
            C.due("worth on 0", x.worth(1000 * r, 1), strong * 1000 - 10000);
            C.due("gained", x.gained(r), 2 * (strong * 1000 - 10000));
            C.due("led", x.led(1000 * r + 5), 0);
            C.due("led 119", x.led(1000 * r + 119), 119);
            C.due("taper", x.taper(1000 * r + 119, 0), 120);
            C.due("cold", x.cold(1000 * r + 119, 30), 10000 - strong * 1000);
            C.due("cold on 0", x.cold(1000 * r, 1), 10000 - strong * 1000);
            C.due("mean", x.mean(1000 * r + 119), strong * 1000 - 10000);
            // days 117, 115, 113, 110; those ahead are gone
            C.due("lines", x.lines(r, 100, 0), (strong - 10) * (250 + 62 + 15 + 1));
        }
        x.mend(1, 1, 0);
        for (int r = 0; r < 5; r++) {
            C.due("taper 119", x.taper(1000 * r + 2, 0), 119);
            C.due("taper from 0 is more", x.taper(1000 * r, 0), 0);
            C.due("by", x.taper(1000 * r, 1), 20000);
        }
        x.forget();
        x.counts(0, 3);
        C.due("the last is day 0", x.taper(0, 0), 0);
        C.due("by", x.taper(0, 1), 30000);
        C.due("lines to day 0", x.lines(0, 100, 0), 0);
        C.due("years to day 0", x.years(0, 1, 11), -10000);
        C.due("years to day 0", x.years(0, 1, 501), -10000);
    }

    private static void points() {
        FitOnDay x = made();
        C.due("rest", x.points(0, 0, 5), 0);
        C.due("k 0", x.points(0, 1, 0), 10000);
        C.due("k 9", x.points(0, 1, 9), 10);
        C.due("k 10", x.points(0, 1, 10), 0);
        C.due("k 119", x.points(1, 1, 119), 30 * left(100, 119));
        C.due("runner 1, k 1", x.points(1, 2, 1), 15 * 900 - 30);
        C.due("k 120", x.points(0, 1, 120), VOID);
        C.due("k -1", x.points(0, 1, -1), VOID);
        C.due("work 4", x.points(0, 4, 0), VOID);
        C.due("runner 2", x.points(2, 1, 0), VOID);
        C.due("runner -1", x.points(-1, 1, 0), VOID);
    }

    private static int left(int goes, int k) {
        int left = 1000;
        for (int i = 0; i < k; i++) left = left * (1000 - goes) / 1000;
        return left;
    }

    private static void counting() {
        FitOnDay x = made();
        C.due("day -1", x.counts(-1, 1), -1);
        C.due("day 120", x.counts(120, 1), -1);
        C.due("weight 0", x.counts(5, 0), -1);
        C.due("weight 10", x.counts(5, 10), -1);
        C.due("first", x.counts(50, 3), 1);
        C.due("told", x.counts(50, 4), -1);
        C.due("second", x.counts(10, 2), 2);
        C.due("third", x.counts(119, 9), 3);
        C.due("fourth", x.counts(0, 1), 4);
        C.due("fifth", x.counts(1, 1), -3);
        C.due("BAD ahead of FULL", x.counts(50, 1), -1);
        C.due("count(3)", x.count(3), 4);
        C.due("forget", x.forget(), 4);
        C.due("forget none", x.forget(), 0);
        C.due("as if never told", x.counts(50, 4), 1);
    }

    private static void worths() {
        FitOnDay x = made();
        x.counts(10, 2);
        x.counts(12, 3);
        C.due("on the first", x.worth(10, 1), 2 * 10000 + 3 * 2500);
        C.due("between", x.worth(11, 1), 3 * 5000);
        C.due("on the last", x.worth(12, 1), 30000);
        C.due("behind", x.worth(13, 1), 0);
        C.due("rest", x.worth(10, 0), 0);
        C.due("below 0", x.worth(12, 2), -60000);
        C.due("runner 1", x.worth(1011, 2), 3 * (15 * 900 - 30));
        C.due("no work 4", x.worth(10, 4), VOID);
        C.due("no day 120", x.worth(120, 1), VOID);
        C.due("no runner 2", x.worth(2010, 1), VOID);
        C.due("below", x.worth(-1, 1), VOID);
        x.plan(10, 1);
        x.plan(12, 2);
        x.plan(13, 1);
        C.due("gained", x.gained(0), 27500 - 60000);
        C.due("gained by none", x.gained(2), VOID);
        C.due("gained by -1", x.gained(-1), VOID);
        x.forget();
        C.due("nothing counts", x.gained(0), 0);
    }

    private static void bests() {
        FitOnDay x = made();
        x.counts(9, 1);
        // 3 is best everywhere: 20000 on 9, 10000 on 8, 5000 on 7; 2500, 1250, 620, 310, 150, 70, 30 on 6 .. 0
        C.due("m 0", x.best(0, 0, -1), 0);
        C.due("m 1", x.best(0, 1, -1), 20000 + 2500);
        C.due("m 2", x.best(0, 2, -1), 30000 + 2500 + 20 * 62);
        C.due("m 7", x.best(0, 7, -1), 35000 + 20 * (125 + 62 + 31 + 15 + 7 + 3 + 1));
        C.due("day 6", x.best(0, 1, 6), 3);
        C.due("day 5", x.best(0, 1, 5), 0);
        C.due("day 5 with 2", x.best(0, 2, 5), 3);
        C.due("day 10", x.best(0, 7, 10), 0);
        C.due("the plan stays", x.count(2), 0);
        C.due("m 8", x.best(0, 8, -1), VOID);
        C.due("m -1", x.best(0, -1, -1), VOID);
        C.due("day -2", x.best(0, 1, -2), VOID);
        C.due("day 120", x.best(0, 1, 120), VOID);
        C.due("runner 2", x.best(2, 1, 0), VOID);
        FitOnDay same = new FitOnDay();
        same.runner(999001, 1000);
        same.work(10200);
        same.work(10200);
        same.work(10);
        same.counts(119, 1);
        same.counts(0, 1);
        C.due("of like works the least", same.best(0, 1, 0), 1);
        same.forget();
        same.runner(1001, 1000);
        same.mend(3, 1, 0);
        same.counts(20, 1);
        C.due("none above 0 is rest", same.best(1, 7, 119), 0);
        FitOnDay like = new FitOnDay();
        // strength 1 of 1000 left from the first day on, and gone then: the days 0 .. are all worth 0
        like.runner(999999, 1000);
        like.work(10);
        like.counts(5, 1);
        C.due("worth 0 is rest", like.best(0, 7, 3), 0);
        C.due("two days are worth", like.best(0, 7, -1), 1001);
        FitOnDay first = new FitOnDay();
        first.runner(1001, 1000);
        first.work(10);
        first.counts(3, 1);
        first.counts(2, 1);
        first.counts(1, 1);
        first.counts(0, 1);
        C.due("more counts on day 0", first.best(0, 1, 0), 1);
        FitOnDay tie = new FitOnDay();
        tie.runner(500500, 1000);
        tie.work(20);
        tie.counts(1, 1);
        tie.counts(2, 2);
        // day 1: 2000 + 2 * 1000; day 2: 2 * 2000
        C.due("worth alike", tie.worth(1, 1) - tie.worth(2, 1), 0);
        C.due("of like days the first", tie.best(0, 1, 1) * 10 + tie.best(0, 1, 2), 10);
    }

    private static void pays() {
        FitOnDay x = made();
        C.due("nothing counts", x.pays(0), 0);
        x.counts(9, 1);
        C.due("to the day", x.pays(0), 10);
        x.counts(119, 1);
        C.due("to the last", x.pays(0), 120);
        C.due("none", x.pays(2), -1);
        C.due("-1", x.pays(-1), -1);
        FitOnDay y = new FitOnDay();
        y.runner(500100, 1000);
        y.work(30100);
        y.counts(20, 1);
        // 10 * 900 ^ k against 30 * 500 ^ k: 729 * 10 is above 125 * 30, 810 * 10 above 250 * 30, 9000 below 15000
        C.due("tired still", y.pays(0), 19);
    }

    private static void leads() {
        FitOnDay x = made();
        C.due("rest leads nowhere", x.led(50), -2);
        x.plan(3, 2);
        C.due("below 0", x.led(3), -2);
        C.due("runner 1: two days on it pays", x.led(1005), 3);
        x.plan(0, 3);
        C.due("day 0 for itself", x.led(0), 0);
        C.due("day 0 for the next", x.led(2), 0);
        x.mend(3, 1, 1);
        x.plan(3, 0);
        C.due("1 is above 0", x.led(9), 0);
        C.due("0 is not", x.led(10), -2);
        x.mend(3, 1, 20);
        x.plan(3, 2);
        x.plan(0, 0);
        x.plan(2, 1);
        x.plan(1, 3);
        // on day 3: day 1: 20 * 250, day 2: 10 * 500
        C.due("of like ones the first", x.led(3), 1);
        x.mend(1, 1, 21);
        C.due("more", x.led(3), 2);
        C.due("only to the day", x.led(1), 1);
        C.due("BAD", x.led(2000), -1);
        C.due("BAD day", x.led(120), -1);
        C.due("BAD below", x.led(-5), -1);
    }

    private static void tapers() {
        FitOnDay x = made();
        C.due("nothing counts", x.taper(0, 0), -2);
        C.due("nothing counts", x.taper(0, 1), -2);
        C.due("BAD ahead of NOT", x.taper(0, 2), VOID);
        C.due("BAD", x.taper(2000, 0), VOID);
        C.due("BAD", x.taper(120, 0), VOID);
        C.due("BAD", x.taper(-1, 0), VOID);
        x.counts(20, 2);
        x.counts(10, 1);
        x.plan(20, 2);
        x.plan(19, 1);
        x.plan(18, 2);
        // from 20: 2 * 20000; from 19: less 2 * 5000; from 18: and 2 * 5000 more again
        C.due("of like ones the latest", x.taper(0, 0), 20);
        C.due("by how much", x.taper(0, 1), 40000);
        C.due("from 18 on", x.taper(18, 0), 20);
        x.plan(17, 2);
        C.due("from 17 is more", x.taper(0, 0), 17);
        C.due("by more", x.taper(0, 1), 45000);
        C.due("told 18", x.taper(18, 1), 40000);
        C.due("told 20", x.taper(20, 0), 20);
        C.due("told 21", x.taper(21, 0), 21);
        C.due("told 21", x.taper(21, 1), 0);
        C.due("told 100", x.taper(100, 0), 100);
        C.due("told 100", x.taper(100, 1), 0);
        C.due("in thought", x.of(20), 2);
        x.plan(20, 1);
        x.plan(18, 1);
        x.plan(17, 1);
        C.due("nothing gains", x.taper(0, 0), 21);
        C.due("by 0", x.taper(0, 1), 0);
        x.counts(119, 9);
        C.due("behind the last day", x.taper(0, 0), 120);
    }

    public static void main(String[] args) {
        fit();
        runnersAndDays();
        points();
        counting();
        worths();
        bests();
        pays();
        leads();
        tapers();
        C.end();
    }
}
