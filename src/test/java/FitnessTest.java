/** Promises 9 to 18: fitness, counting days, what works are worth. */
public final class FitnessTest {
    private static final int BAD = FitOnDay.BAD, NOT = FitOnDay.NOT, FULL = FitOnDay.FULL, VOID = FitOnDay.VOID;
    private static final int MIN = Integer.MIN_VALUE, MAX = Integer.MAX_VALUE;
    /** Told together, a runner that is not there or a day that is not there, of two runners. */
    private static final int[] NO_RUNNERS_DAYS = {-1, -1000, -1001, 120, 999, 1120, 1999, 2000, 2119, 120000, MIN, MAX};
    private static final Check C = new Check();

    /** Runner 0: half goes by a day of both. Runner 1: what tires is gone soon, strength goes by tenths.
        Work 1: 10 and 20; work 2: 30 and 10; work 3: 0 and 20. */
    private static FitOnDay made() {
        FitOnDay x = new FitOnDay();
        x.runner(500500, 1000);
        x.runner(999100, 1500);
        x.work(10200);
        x.work(30100);
        x.work(200);
        return x;
    }

    private static int left(int goes, int k) {
        int left = 1000;
        for (int i = 0; i < k; i++) left = left * (1000 - goes) / 1000;
        return left;
    }

    private static void fit() {
        FitOnDay x = made();
        C.says(9, "FIT on a DAY by THE PLAN");
        C.each("all rest", rd -> x.fit(rd, 0), 0, 0, 119, 1000, 1119);
        x.plan(0, 1);
        x.plan(2, 2);
        C.due("day 1", x.fit(1, 0), 5000);
        C.due("below 0", x.fit(2, 0), 15000 - 32500);
        C.says(9, "the sum of POINTS of WORKS of all DAYS to that one (that one too: k 0).");
        C.due("day 0 itself", x.fit(0, 0), 10000);
        C.due("day 2", x.fit(2, 0), x.points(0, 1, 2) + x.points(0, 0, 1) + x.points(0, 2, 0));
        C.due("not what comes", x.fit(1, 0), x.points(0, 1, 1));
        C.due("day 5", x.fit(5, 2), 10 * 31 + 30 * 125);
        C.due("all gone", x.fit(119, 0), 0);
        C.due("runner 1 on the last day", x.fit(1119, 0), 30 * left(100, 119) + 15 * left(100, 117));
        C.says(9, "STRONG, TIRED: each part alone.");
        C.due("strong", x.fit(2, 1), 20 * 250 + 10 * 1000);
        C.due("tired", x.fit(2, 2), 10 * 250 + 30 * 1000);
        // 20 * 1500 / 1000 = 30, 10 * 1500 / 1000 = 15
        C.due("runner 1 strong", x.fit(1002, 1), 30 * 810 + 15 * 1000);
        C.due("runner 1 tired", x.fit(1003, 2), 10 * 0 + 30 * 1);
        C.says(9, "FIT (what 0), STRONG (1), TIRED (2).");
        for (int rd : new int[] {0, 2, 5, 1000, 1003}) C.due("one less the other", x.fit(rd, 0), x.fit(rd, 1) - x.fit(rd, 2));
        C.says(9, "VOID: BAD.");
        C.each("rd", rd -> x.fit(rd, 0), VOID, NO_RUNNERS_DAYS);
        C.each("what", what -> x.fit(0, what), VOID, -1, 3, MIN, MAX);
        C.due("no runner yet", new FitOnDay().fit(0, 0), VOID);
    }

    /** A runner's number and a day are told in one: five runners, a work each on the first and the last day. */
    private static void runnersAndDays() {
        FitOnDay x = new FitOnDay();
        x.work(10200);
        for (int r = 0; r < 5; r++) x.runner(500500, 1000 + 100 * r);
        x.plan(0, 1);
        x.plan(119, 1);
        x.counts(119, 1);
        x.counts(0, 1);
        for (int r = 0; r < 5; r++) {
            int strong = 20 + 2 * r;
            C.due("strong", x.fit(1000 * r + 119, 1), strong * 1000);
            C.due("tired", x.fit(1000 * r + 119, 2), 10000);
            C.due("fit on 0", x.fit(1000 * r, 0), strong * 1000 - 10000);
            C.due("fit on 1", x.fit(1000 * r + 1, 0), strong * 500 - 5000);
            C.due("worth on 119", x.worth(1000 * r + 119, 1), strong * 1000 - 10000);
            C.due("worth on 0", x.worth(1000 * r, 1), strong * 1000 - 10000);
            C.due("gained", x.gained(r), 2 * (strong * 1000 - 10000));
            C.due("led", x.led(1000 * r + 5), 0);
            C.due("led 119", x.led(1000 * r + 119), 119);
            C.due("taper", x.taper(1000 * r + 119, 0), 120);
            C.due("cold", x.cold(1000 * r + 119, 30), 10000 - strong * 1000);
            C.due("cold on 0", x.cold(1000 * r, 1), 10000 - strong * 1000);
            C.due("mean", x.mean(1000 * r + 119), strong * 1000 - 10000);
            // days 117, 115, 113, 110; those ahead are gone
            C.due("lines", x.lines(r, 100, 0), (strong - 10) * (250 + 62 + 15 + 1));
        }
        x.mend(1, 1, 0);
        for (int r = 0; r < 5; r++) {
            C.due("taper 119", x.taper(1000 * r + 2, 0), 119);
            C.due("taper from 0 is more", x.taper(1000 * r, 0), 0);
            C.due("by", x.taper(1000 * r, 1), 20000);
        }
        x.forget();
        x.counts(0, 3);
        C.due("the last is day 0", x.taper(0, 0), 0);
        C.due("by", x.taper(0, 1), 30000);
        C.due("lines to day 0", x.lines(0, 100, 0), 0);
        C.due("years to day 0", x.years(0, 1, 11), -10000);
        C.due("years to day 0", x.years(0, 1, 501), -10000);
    }

    private static void manyDays() {
        FitOnDay x = new FitOnDay();
        x.work(8100);
        for (int r = 0; r < 5; r++) x.runner(2001 + 1001 * r, 1000);
        x.shape(1, 70, 119);
        C.says(9, "the sum of POINTS of WORKS of all DAYS to that one");
        for (int r = 0; r < 5; r++) {
            int strong = 0;
            int tired = 0;
            for (int d = 0; d < 120; d++) {
                strong += 10 * left(1 + r, d);
                tired += 8 * left(2 + r, d);
                if (d > 5 && d < 115) continue;
                C.due("strong", x.fit(1000 * r + d, 1), strong);
                C.due("tired", x.fit(1000 * r + d, 2), tired);
                C.due("fit", x.fit(1000 * r + d, 0), strong - tired);
            }
        }
    }

    /** Runners who differ, on the first days: work 1 (8 and 10) is worth -3, -1, 1, 3, 5 to them. */
    private static void runnersOnFirstDays() {
        FitOnDay x = new FitOnDay();
        x.work(8100);
        for (int r = 0; r < 5; r++) x.runner(500500, 500 + 200 * r);
        for (int d = 0; d < 9; d++) x.plan(d, 1);
        C.says(17, "LED of a DAY (counting or not).");
        for (int r = 0; r < 5; r++) C.each("led", rd -> x.led(rd), r < 2 ? NOT : 0, 1000 * r);
        for (int r = 0; r < 5; r++) C.each("led", rd -> x.led(rd), r < 2 ? NOT : 4, 1000 * r + 4);
        C.says(18, "TAPER of those from a DAY on");
        x.counts(0, 1);
        for (int r = 0; r < 5; r++) C.due("by how much", x.taper(1000 * r, 1), r == 0 ? 3000 : r == 1 ? 1000 : 0);
        for (int r = 0; r < 5; r++) C.due("the day", x.taper(1000 * r, 0), r < 2 ? 0 : 1);
        for (int r = 0; r < 5; r++) C.due("told behind it", x.taper(1000 * r + 100, 0), 100);
        for (int r = 0; r < 5; r++) C.due("told behind it", x.taper(1000 * r + 2, 0), 2);
        C.says(13, "WORTH of a WORK on a DAY:");
        for (int r = 0; r < 5; r++) C.due("worth", x.worth(1000 * r, 1), 2000 * r - 3000);
    }

    private static void points() {
        FitOnDay x = made();
        C.says(10, "STRENGTHENS times GIFT / 1000 (cut) times LEFT of STRENGTH, less TIRES times LEFT of TIRED (in thousandths).");
        C.due("today", x.points(0, 1, 0), 10000);
        C.due("below 0", x.points(0, 2, 0), -20000);
        C.due("nine days ago", x.points(0, 1, 9), 10);
        C.due("ten days ago", x.points(0, 1, 10), 0);
        C.due("runner 1", x.points(1, 2, 1), 15 * 900 - 30);
        FitOnDay y = new FitOnDay();
        y.runner(1001, 999);
        y.runner(1001, 1001);
        y.work(999);
        y.work(10);
        C.due("99 * 999 / 1000 is 98", y.points(0, 1, 0), 98000);
        C.due("99 * 1001 / 1000 is 99", y.points(1, 1, 0), 99000);
        C.due("999 / 1000 is 0", y.points(0, 2, 0), 0);
        C.due("1001 / 1000 is 1", y.points(1, 2, 0), 1000);
        C.says(10, "POINTS of a WORK k days ago for a RUNNER:");
        C.due("rest", x.points(0, 0, 5), 0);
        C.due("whatever the plan is", x.count(2), 0);
        C.says(10, "k days ago (0 .. 119) for a RUNNER.");
        C.due("119 days ago", x.points(1, 1, 119), 30 * left(100, 119));
        C.due("118 days ago", x.points(1, 1, 118), 30 * left(100, 118));
        C.each("k", k -> x.points(0, 1, k), VOID, -1, 120, MIN, MAX);
        C.says(10, "POINTS of a WORK k days ago (0 .. 119) for a RUNNER. VOID: BAD.");
        C.each("work", work -> x.points(0, work, 0), VOID, -1, 4, 6, MIN, MAX);
        C.each("runner", runner -> x.points(runner, 1, 0), VOID, -1, 2, 5, MIN, MAX);
        C.due("no runner yet", new FitOnDay().points(0, 0, 0), VOID);
    }

    private static void counting() {
        FitOnDay x = made();
        C.says(11, "A COUNTING DAY: how many.");
        C.due("first", x.counts(50, 3), 1);
        C.due("second", x.counts(10, 2), 2);
        C.says(11, "each with a WEIGHT (1 .. 9).");
        C.each("weight", weight -> x.counts(5, weight), BAD, 0, -1, 10, MIN, MAX);
        C.says(11, "COUNTING DAYS: up to 4, told");
        C.each("day", day -> x.counts(day, 1), BAD, -1, 120, MIN, MAX);
        C.due("the last day, weight 9", x.counts(119, 9), 3);
        C.due("the first day, weight 1", x.counts(0, 1), 4);
        C.due("so many", x.count(3), 4);
        C.says(11, "BAD (told), FULL: 4.");
        C.each("another", day -> x.counts(day, 1), FULL, 1, 51, 118);
        C.each("told: ahead of FULL", day -> x.counts(day, 4), BAD, 50, 10, 119, 0);
        C.due("BAD ahead of FULL", x.counts(1, 10), BAD);
        C.due("so many still", x.count(3), 4);
        C.due("the weight stays", x.worth(119, 1), 9 * 10000);
        FitOnDay y = made();
        y.counts(7, 2);
        C.due("told: not full", y.counts(7, 2), BAD);
        C.due("its weight stays", y.counts(7, 9), BAD);
        C.due("weight 2", y.worth(7, 1), 20000);
        C.says(12, "COUNTING DAYS are none: how many there were.");
        C.due("forget", x.forget(), 4);
        C.due("none count", x.count(3), 0);
        C.due("worth", x.worth(0, 1), 0);
        C.due("forget none", x.forget(), 0);
        C.due("forget none on a new object", new FitOnDay().forget(), 0);
        C.due("as if never told", x.counts(50, 4), 1);
        C.due("the new weight", x.worth(50, 1), 40000);
        C.due("not the others", x.worth(51, 1), 0);
    }

    private static void worths() {
        FitOnDay x = made();
        C.says(13, "WORTH of a WORK on a DAY:");
        C.each("nothing counts", rd -> x.worth(rd, 1), 0, 0, 119, 1000);
        C.says(13, "the sum over COUNTING DAYS not before it of WEIGHT times POINTS.");
        x.counts(12, 3);
        x.counts(10, 2);
        C.due("on the first", x.worth(10, 1), 2 * 10000 + 3 * 2500);
        C.due("between", x.worth(11, 1), 3 * 5000);
        C.due("on the last", x.worth(12, 1), 30000);
        C.due("behind", x.worth(13, 1), 0);
        C.due("ahead of both", x.worth(9, 1), 2 * 5000 + 3 * 1250);
        C.due("rest", x.worth(10, 0), 0);
        C.due("below 0", x.worth(12, 2), -60000);
        C.due("runner 1", x.worth(1011, 2), 3 * (15 * 900 - 30));
        C.says(13, "WORTH of a WORK on a DAY. VOID: BAD.");
        C.each("rd", rd -> x.worth(rd, 1), VOID, NO_RUNNERS_DAYS);
        C.each("work", work -> x.worth(10, work), VOID, -1, 4, 6, MIN, MAX);
        C.says(14, "GAINED by THE PLAN: the sum of WORTHS of its WORKS.");
        C.due("rest alone", x.gained(0), 0);
        x.plan(10, 1);
        x.plan(12, 2);
        x.plan(13, 1);
        C.due("gained", x.gained(0), 27500 - 60000);
        x.plan(0, 1);
        x.counts(0, 9);
        C.due("with day 0", x.gained(0), 27500 - 60000 + 90000 + x.points(0, 1, 10) * 2 + x.points(0, 1, 12) * 3);
        C.says(14, "GAINED by THE PLAN. VOID: BAD.");
        C.each("runner", x::gained, VOID, -1, 2, 5, MIN, MAX);
        x.forget();
        C.due("nothing counts", x.gained(0), 0);
        C.due("no runner yet", new FitOnDay().gained(0), VOID);
    }

    private static void bests() {
        FitOnDay x = made();
        C.says(15, "BEST WORKS with at most m (0 .. 7) WORKS other than rest in each WEEK (DAYS 7 w .. 7 w and 6)");
        C.due("nothing counts", x.best(0, 7, -1), 0);
        x.counts(9, 1);
        // 3 is best everywhere: 20000 on 9, 10000 on 8, 5000 on 7; 2500, 1250, 620, 310, 150, 70, 30 on 6 .. 0
        C.due("m 0", x.best(0, 0, -1), 0);
        C.due("m 0: day 9", x.best(0, 0, 9), 0);
        C.due("m 1", x.best(0, 1, -1), 20000 + 2500);
        C.due("m 2", x.best(0, 2, -1), 30000 + 2500 + 20 * 62);
        C.due("m 6", x.best(0, 6, -1), 35000 + 20 * (125 + 62 + 31 + 15 + 7 + 3));
        C.due("m 7", x.best(0, 7, -1), 35000 + 20 * (125 + 62 + 31 + 15 + 7 + 3 + 1));
        C.each("m", m -> x.best(0, m, -1), VOID, -1, 8, MIN, MAX);
        C.says(15, "of each WEEK those m DAYS whose BEST are worth most");
        C.due("day 6 is of week 0", x.best(0, 1, 6), 3);
        C.due("day 5", x.best(0, 1, 5), 0);
        C.due("day 5 with 2", x.best(0, 2, 5), 3);
        C.due("day 9 is of week 1", x.best(0, 1, 9), 3);
        C.due("day 7", x.best(0, 1, 7), 0);
        C.due("day 7 with 2", x.best(0, 2, 7), 0);
        C.due("day 7 with 3", x.best(0, 3, 7), 3);
        C.says(15, "(above 0; of like ones the first), rest else: GAINED; the WORK of a DAY.");
        C.due("day 10", x.best(0, 7, 10), 0);
        C.due("day 0 with 1", x.best(0, 1, 0), 0);
        C.due("day 119", x.best(0, 7, 119), 0);
        C.says(15, "BEST WORKS with m: GAINED (day -1), the WORK of a DAY.");
        C.due("the plan stays", x.count(2), 0);
        x.plan(9, 2);
        C.due("whatever the plan is", x.best(0, 1, 9), 3);
        C.due("day 0", x.best(0, 7, 0), 3);
        C.due("another runner", x.best(1, 1, -1), x.worth(1009, 3) + x.worth(1006, 3));
        x.forget();
        x.counts(119, 1);
        int all = 0;
        for (int d = 0; d < 120; d++) all += x.worth(d, 3);
        C.due("the last week has one day, m 7", x.best(0, 7, -1), all);
        C.due("the last week has one day, m 1", x.best(0, 1, -1), x.worth(119, 3) + x.worth(118, 3) + x.worth(111, 3));
        C.says(15, "VOID: BAD.");
        C.each("day", day -> x.best(0, 1, day), VOID, -2, 120, MIN, MAX);
        C.each("runner", runner -> x.best(runner, 1, 0), VOID, -1, 2, 5, MIN, MAX);
    }

    private static void likeBests() {
        C.says(15, "BEST of a DAY: the WORK with the greatest WORTH (of like ones the least).");
        FitOnDay x = new FitOnDay();
        x.runner(999001, 1000);
        x.runner(1001, 1000);
        x.work(10190);
        x.work(10200);
        x.work(10200);
        x.counts(119, 1);
        x.counts(0, 1);
        C.due("of three", x.best(0, 1, 0), 2);
        C.due("the last day, alone in its week", x.best(0, 1, 119), 2);
        x.mend(3, 1, 21);
        C.due("the greatest", x.best(0, 1, 0), 3);
        C.says(15, "(above 0;");
        x.mend(1, 1, 10);
        x.mend(2, 1, 9);
        x.mend(3, 1, 10);
        C.due("like rest: rest", x.best(1, 7, 119), 0);
        C.due("none is above 0", x.best(1, 7, -1), 0);
        x.mend(3, 1, 11);
        C.due("one is", x.best(1, 7, 119), 3);
        FitOnDay y = new FitOnDay();
        // strength 1 of 1000 left on the next day, and gone then: days 0 .. 3 are all worth 0
        y.runner(999999, 1000);
        y.work(10);
        y.counts(5, 1);
        C.due("worth 0 is rest", y.best(0, 7, 3), 0);
        C.due("two days are worth", y.best(0, 7, -1), 1001);
        C.says(15, "of like ones the first), rest else");
        FitOnDay z = new FitOnDay();
        z.runner(500500, 1000);
        z.work(20);
        z.counts(1, 1);
        z.counts(2, 2);
        // day 1: 2000 + 2 * 1000; day 2: 2 * 2000
        C.due("worth alike", z.worth(1, 1) - z.worth(2, 1), 0);
        C.due("the first of two", z.best(0, 1, 1) * 10 + z.best(0, 1, 2), 10);
        C.due("both with 2", z.best(0, 2, 1) * 10 + z.best(0, 2, 2), 11);
        C.due("one of both", z.best(0, 1, -1), 4000);
    }

    private static void pays() {
        FitOnDay x = made();
        C.says(16, "NO MORE PAYS: the least DAY from which on each DAY's BEST is rest.");
        C.due("nothing counts", x.pays(0), 0);
        x.counts(9, 1);
        C.due("to the day", x.pays(0), 10);
        FitOnDay y = new FitOnDay();
        y.runner(500100, 1000);
        y.work(30100);
        y.counts(20, 1);
        // 10 * 900 ^ k against 30 * 500 ^ k: 729 * 10 is above 125 * 30, 810 * 10 above 250 * 30, 9000 below 15000
        C.due("tired still", y.pays(0), 19);
        y.counts(2, 1);
        C.due("the least from which on, not the first that rests", y.pays(0), 19);
        FitOnDay z = new FitOnDay();
        z.runner(999999, 1000);
        z.work(10);
        z.counts(5, 1);
        C.due("days 0 to 3 rest too", z.pays(0), 6);
        z.forget();
        z.counts(0, 1);
        C.due("day 0 pays", z.pays(0), 1);
        C.says(16, "NO MORE PAYS: the DAY (120: it does to the last).");
        x.counts(119, 1);
        C.due("to the last", x.pays(0), 120);
        x.forget();
        x.counts(118, 1);
        C.due("to the last but one", x.pays(0), 119);
        C.says(16, "BAD.");
        C.each("runner", x::pays, BAD, -1, 2, 5, MIN, MAX);
        C.due("no runner yet", new FitOnDay().pays(0), BAD);
    }

    private static void leads() {
        FitOnDay x = made();
        C.says(17, "BAD; NOT: no DAY brings more than 0.");
        C.each("rest alone", x::led, NOT, 0, 50, 119, 1000);
        x.plan(3, 2);
        C.due("below 0", x.led(3), NOT);
        C.due("to come", x.led(2), NOT);
        x.plan(3, 0);
        x.mend(1, 1, 10);
        x.plan(4, 1);
        C.due("0 is not more", x.led(4), NOT);
        C.due("0 is not more", x.led(9), NOT);
        x.mend(1, 1, 20);
        x.plan(4, 0);
        C.each("rd", x::led, BAD, NO_RUNNERS_DAYS);
        C.says(17, "LED of a DAY (counting or not).");
        x.plan(3, 2);
        C.due("runner 1: two days on it pays", x.led(1005), 3);
        x.counts(6, 1);
        C.due("a counting day", x.led(1006), 3);
        C.says(17, "LED: of a COUNTING DAY the DAY whose WORK in THE PLAN brings it most POINTS");
        x.plan(0, 3);
        C.due("day 0 for itself", x.led(0), 0);
        C.due("day 0 for the next", x.led(2), 0);
        x.mend(3, 1, 1);
        x.plan(3, 0);
        C.due("1 is above 0", x.led(9), 0);
        C.due("0 is not", x.led(10), NOT);
        x.plan(119, 1);
        C.due("the last for itself", x.led(119), 119);
        C.says(17, "(of like ones the first).");
        x.mend(3, 1, 20);
        x.plan(3, 2);
        x.plan(0, 0);
        x.plan(2, 1);
        x.plan(1, 3);
        // on day 3: day 1: 20 * 250, day 2: 10 * 500
        C.due("of two", x.led(3), 1);
        x.mend(1, 1, 21);
        C.due("more", x.led(3), 2);
        C.due("only to the day", x.led(1), 1);
    }

    private static void tapers() {
        FitOnDay x = made();
        C.says(18, "NOT: no COUNTING DAYS)");
        C.each("nothing counts", what -> x.taper(0, what), NOT, 0, 1);
        C.says(18, "VOID: BAD; NOT.");
        C.each("what: ahead of NOT", what -> x.taper(0, what), VOID, -1, 2, MIN, MAX);
        C.each("rd: ahead of NOT", rd -> x.taper(rd, 0), VOID, NO_RUNNERS_DAYS);
        x.counts(20, 2);
        x.counts(10, 1);
        C.each("what", what -> x.taper(0, what), VOID, -1, 2);
        C.each("rd", rd -> x.taper(rd, 1), VOID, NO_RUNNERS_DAYS);
        C.says(18, "TAPER of those from a DAY on: the DAY (what 0), by how much (1).");
        x.plan(20, 2);
        x.plan(19, 1);
        x.plan(18, 2);
        // from 20: 2 * 20000; from 19: less 2 * 5000; from 18: and 2 * 5000 more again
        C.due("by how much", x.taper(0, 1), 40000);
        C.due("from 18 on", x.taper(18, 1), 40000);
        C.says(18, "gains most (of like ones the latest;");
        C.due("of 18 and 20", x.taper(0, 0), 20);
        C.due("of 18 and 20", x.taper(18, 0), 20);
        x.plan(17, 2);
        C.due("from 17 is more", x.taper(0, 0), 17);
        C.due("by more", x.taper(0, 1), 45000);
        x.plan(16, 0);
        C.due("from 16 is like", x.taper(0, 0), 17);
        C.says(18, "TAPER: from which DAY (of those from a told one on) rest instead of what THE PLAN says to the last COUNTING DAY");
        C.due("told 17", x.taper(17, 0), 17);
        C.due("told 18", x.taper(18, 0), 20);
        C.due("told 18", x.taper(18, 1), 40000);
        C.due("told 20", x.taper(20, 0), 20);
        C.due("told 20", x.taper(20, 1), 40000);
        C.says(18, "in thought;");
        C.due("day 20 works", x.of(20), 2);
        C.due("days that work", x.count(2), 4);
        C.says(18, "by how much (the DAY behind the last COUNTING DAY is one of these: 0;");
        C.due("told 21", x.taper(21, 0), 21);
        C.due("told 21", x.taper(21, 1), 0);
        x.plan(20, 1);
        x.plan(18, 1);
        x.plan(17, 1);
        C.due("nothing gains", x.taper(0, 0), 21);
        C.due("by 0", x.taper(0, 1), 0);
        C.due("nothing gains of the last", x.taper(20, 0), 21);
        x.plan(20, 0);
        C.due("rest is like: the latest", x.taper(20, 0), 21);
        x.counts(119, 9);
        C.due("behind day 119", x.taper(0, 0), 120);
        C.due("behind day 119", x.taper(119, 0), 120);
        C.due("by 0", x.taper(119, 1), 0);
        C.says(18, "so is a told one behind that).");
        x.forget();
        x.counts(20, 2);
        x.plan(30, 2);
        C.each("told", day -> x.taper(day, 0) - day, 0, 22, 23, 100, 119);
        C.each("by", day -> x.taper(day, 1), 0, 22, 23, 30, 100, 119);
        x.forget();
        x.counts(0, 1);
        C.due("behind day 0", x.taper(0, 0), 1);
        C.due("told 2", x.taper(2, 0), 2);
        x.plan(0, 2);
        C.due("day 0", x.taper(0, 0), 0);
        C.due("by", x.taper(0, 1), 20000);
    }

    public static void main(String[] args) {
        fit();
        runnersAndDays();
        manyDays();
        runnersOnFirstDays();
        points();
        counting();
        worths();
        bests();
        likeBests();
        pays();
        leads();
        tapers();
        C.end();
    }
}
