/** Promises 26 to 32: tests, groups, colds, lines, years. */
public final class GroupsTest {
    private static final int BAD = FitOnDay.BAD, NOT = FitOnDay.NOT, FULL = FitOnDay.FULL, STATE = FitOnDay.STATE, VOID = FitOnDay.VOID;
    private static final int MIN = Integer.MIN_VALUE, MAX = Integer.MAX_VALUE;
    /** Told together, a runner that is not there or a day that is not there, of two runners. */
    private static final int[] NO_RUNNERS_DAYS = {-1, -1000, -1001, 120, 999, 1120, 1999, 2000, 2119, 120000, MIN, MAX};
    private static final Check C = new Check();

    /** Runner 0: half of both goes by a day. Runner 1: what tires is gone soon, strength goes by tenths, gift 1500.
        Work 1: 10 and 20; work 2: 30 and 10. */
    private static FitOnDay made() {
        FitOnDay x = new FitOnDay();
        x.runner(500500, 1000);
        x.runner(999100, 1500);
        x.work(10200);
        x.work(30100);
        return x;
    }

    private static void tests() {
        FitOnDay x = made();
        C.says(26, "TESTS 0 .. 9, as they come: on a DAY it was so FIT (points / 1000).");
        C.due("first", x.test(0, 0), 0);
        C.due("second, of the same day", x.test(0, 0), 1);
        C.due("the last day", x.test(119, 1), 2);
        C.says(26, "BAD, FULL: 10.");
        C.each("day", day -> x.test(day, 0), BAD, -1, 120, MIN, MAX);
        // the document names no bound of what was found; the told test has 10000 refused and -9999 taken
        C.each("found", found -> x.test(0, found), BAD, 10000, -10000, MIN, MAX);
        C.due("-9999", x.test(0, -9999), 3);
        C.due("9999", x.test(0, 9999), 4);
        C.says(26, "A TEST: its number.");
        for (int i = 5; i < 10; i++) C.due("more", x.test(i, i), i);
        C.each("an eleventh", day -> x.test(day, 0), FULL, 0, 119);
        C.each("BAD ahead of FULL", day -> x.test(day, 0), BAD, -1, 120);
        C.due("so many", x.count(5), 10);
    }

    private static void who() {
        FitOnDay x = made();
        C.says(27, "BAD; STATE: no TESTS, or no RUNNERS.");
        C.each("no tests", x::who, STATE, -1, 0, 1);
        C.each("BAD ahead of STATE", x::who, BAD, -2, 2, 5, MIN, MAX);
        x.plan(0, 1);
        C.says(27, "WHO: which RUNNER by all TESTS: the sum of sizes of (FIT / 1000 (cut) less what was found): of each; the one with the least");
        // on day 1: runner 0 5, runner 1 30 * 900 - 10 = 26 (cut)
        x.test(1, 10);
        C.due("5 by 0, 16 by 1", x.who(-1), 0);
        C.says(27, "THINK: 1000 less 1000 times its sum by all sums together (cut;");
        C.due("5 of 21", x.who(0), 1000 - 5000 / 21);
        C.due("16 of 21", x.who(1), 1000 - 16000 / 21);
        x.test(1, 20);
        C.says(27, "WHO (runner -1), THINK of a RUNNER.");
        C.due("20 by 0, 22 by 1", x.who(-1), 0);
        C.due("20 of 42", x.who(0), 1000 - 20000 / 42);
        x.test(1, 26);
        C.due("41 by 0, 22 by 1", x.who(-1), 1);
        C.due("22 of 63", x.who(1), 1000 - 22000 / 63);
        C.each("no such one", x::who, BAD, -2, 2, MIN, MAX);
        // 20 * 900 - 10 * 600: 12
        x.runner(400100, 1000);
        C.due("41, 22 and 24", x.who(-1), 1);
        C.due("24 of 87", x.who(2), 1000 - 24000 / 87);
        C.says(27, "(of like ones the first).");
        FitOnDay y = new FitOnDay();
        y.test(0, 0);
        C.due("no runners", y.who(-1), STATE);
        C.each("no runners: BAD ahead of STATE", y::who, BAD, 0, 1);
        y.runner(500500, 1000);
        y.runner(500500, 1000);
        C.due("the first", y.who(-1), 0);
        C.says(27, "these 0: 1000).");
        C.each("sums 0", y::who, 1000, 0, 1);
        y.test(0, -1);
        C.due("like sums", y.who(-1), 0);
        C.each("half", y::who, 500, 0, 1);
        C.says(27, "FIT / 1000 (cut)");
        FitOnDay z = new FitOnDay();
        z.runner(500500, 1000);
        z.runner(600500, 1000);
        z.work(1000);
        z.plan(0, 1);
        z.test(1, 0);
        z.mend(1, 0, 2);
        // -1000 and -800
        C.due("1 of 1", z.who(0), 0);
        C.due("0 of 1", z.who(1), 1000);
        z.mend(1, 0, 1);
        // -500 and -400 are 0, cut
        C.due("below 0: toward 0", z.who(0), 1000);
        z.mend(1, 0, 3);
        // -1500 and -1200
        C.due("-1 and -1", z.who(0), 500);
        z.mend(1, 0, 5);
        // -2500 and -2000
        C.due("-2 and -2", z.who(1), 500);
        z.mend(1, 0, 4);
        // -2000 and -1600
        C.due("-2 and -1: who", z.who(-1), 1);
        C.due("-2 and -1: think", z.who(0), 1000 - 666);
        FitOnDay most = new FitOnDay();
        for (int r = 0; r < 5; r++) most.runner(999001, 1500);
        most.work(990);
        most.shape(1, 70, 119);
        for (int i = 0; i < 10; i++) most.test(119, -9999);
        C.each("as much as can be", most::who, 800, 0, 4);
    }

    private static void groups() {
        FitOnDay x = made();
        C.says(28, "VOID: BAD; STATE: no RUNNERS.");
        FitOnDay nobody = new FitOnDay();
        C.each("no runners", what -> nobody.group(0, what), STATE, 0, 1, 2);
        C.each("what: ahead of STATE", what -> nobody.group(0, what), VOID, -1, 3);
        C.each("day: ahead of STATE", day -> nobody.group(day, 0), VOID, -1, 120);
        C.each("what", what -> x.group(0, what), VOID, -1, 3, MIN, MAX);
        C.each("day", day -> x.group(day, 0), VOID, -1, 120, MIN, MAX);
        C.says(28, "GROUP: by THE PLAN: the least FIT of RUNNERS on a DAY, who;");
        C.due("alike: the first", x.group(0, 1), 0);
        C.due("alike", x.group(119, 0), 0);
        x.plan(0, 2);
        // 10 - 30; 15 - 30
        C.due("least", x.group(0, 0), -20000);
        C.due("who", x.group(0, 1), 0);
        x.plan(0, 1);
        C.due("least of two", x.group(1, 0), 5000);
        C.says(28, "GROUP: the least FIT (what 0), who (1), the WORK of the DAY (2).");
        C.due("nothing counts: rest", x.group(1, 2), 0);
        x.counts(1, 1);
        C.due("work 1", x.group(1, 2), 1);
        C.due("behind it: rest", x.group(2, 2), 0);
        C.says(28, "the WORK of a DAY by which the least GAINED of RUNNERS would be most");
        FitOnDay y = new FitOnDay();
        y.runner(500900, 1000);
        y.runner(900500, 1000);
        y.work(10300);
        y.work(0);
        y.counts(1, 1);
        // a day ahead: runner 0 has 30 * 100 - 10 * 500 = -2000, runner 1 30 * 500 - 10 * 100
        C.due("not for the one that loses", y.group(0, 2), 0);
        FitOnDay weak = new FitOnDay();
        weak.runner(100100, 500);
        weak.runner(999900, 1500);
        weak.work(400);
        weak.work(39990);
        weak.counts(1, 1);
        weak.plan(1, 1);
        // on day 1: 20000 and 60000; a day ahead: 18000 and 6000 by work 1, 9000 and some 14700 by work 2
        C.due("for the one that has least", weak.group(0, 2), 1);
        weak.plan(1, 0);
        C.due("alone the day gives most by work 2", weak.group(0, 2), 2);
        C.says(28, "(THE PLAN else as it is;");
        y.plan(1, 1);
        C.due("on the day for both", y.group(1, 2), 1);
        C.due("the plan stays", y.of(0) * 10 + y.of(1), 1);
        C.says(28, "of like ones the least).");
        C.due("rest and a work that is like it", y.group(0, 2), 0);
        FitOnDay z = made();
        z.work(10200);
        z.counts(1, 1);
        C.due("1 and 3 are alike", z.group(1, 2), 1);
        z.mend(3, 1, 21);
        C.due("3 is more", z.group(1, 2), 3);
        z.plan(1, 3);
        C.due("whatever the day's work is", z.group(1, 2), 3);
    }

    /** Three runners; the last one gains least but for the works that the middle one can't bear. */
    private static void ofThree() {
        FitOnDay x = new FitOnDay();
        x.runner(999100, 1000);
        x.runner(100999, 1000);
        x.runner(900300, 900);
        x.work(10300);
        x.work(20600);
        x.work(100);
        x.counts(2, 1);
        x.plan(0, 2);
        x.plan(2, 1);
        C.due("least", x.group(2, 0), x.fit(1002, 0));
        C.due("who", x.group(2, 1), 1);
        C.due("on the day: who", x.group(0, 1), 2);
        C.due("on the day: least", x.group(0, 0), 54000 - 20000);
        for (int day = 0; day < 4; day++) {
            int[] least = new int[4];
            for (int w = 0; w < 4; w++) {
                int was = x.plan(day, w);
                least[w] = Math.min(x.gained(0), Math.min(x.gained(1), x.gained(2)));
                x.plan(day, was);
            }
            int due = 0;
            for (int w = 1; w < 4; w++) if (least[w] > least[due]) due = w;
            C.due("work of day " + day, x.group(day, 2), due);
        }
    }

    private static void alike() {
        FitOnDay x = made();
        C.says(29, "BAD (one and the same).");
        C.each("one and the same", x::alike, BAD, 0, 11);
        C.each("no such other", x::alike, BAD, 2, 5, 9, 12);
        C.each("no such one", x::alike, BAD, 20, 21, 50, 100, 101, MAX);
        C.each("below 0", x::alike, BAD, -1, -10, -1000, MIN);
        C.due("nobody", new FitOnDay().alike(1), BAD);
        C.says(29, "ALIKE: two RUNNERS: the DAYS on which one is fitter than the other one by THE PLAN: how many.");
        C.each("all rest", x::alike, 0, 1, 10);
        x.plan(117, 1);
        C.due("1 from there on", x.alike(10), 3);
        C.says(29, "ALIKE (rs: 10 times the one and the other).");
        C.due("0 never", x.alike(1), 0);
        x.plan(117, 0);
        x.plan(119, 1);
        C.due("the last day", x.alike(10), 1);
        x.plan(0, 1);
        int fitter = 0;
        for (int d = 0; d < 120; d++) if (x.fit(1000 + d, 0) > x.fit(d, 0)) fitter++;
        C.holds("more from day 0 on", fitter > 40);
        C.due("on day 0 too", x.alike(10), fitter);
        FitOnDay y = made();
        y.plan(0, 1);
        y.mend(1, 1, 0);
        // -10000 both on day 0; then 5000, 2500 .. against 10, 0: by 10 * 1000 / 2 ^ 10 it is gone
        C.due("not while they are alike", y.alike(10), 9);
        C.due("nor the other way", y.alike(1), 0);
        for (int r = 2; r < 5; r++) y.runner(500500, 500);
        C.due("34 are alike", y.alike(34), 0);
        C.due("41", y.alike(14), 9);
        C.due("14", y.alike(41), 0);
        C.due("no runner 5", y.alike(45), BAD);
        C.due("no runner 5", y.alike(54), BAD);
    }

    private static void colds() {
        FitOnDay x = made();
        x.counts(119, 2);
        x.plan(119, 2);
        x.plan(118, 1);
        C.says(30, "A COLD from a DAY for n DAYS: GAINED with it less GAINED without.");
        C.due("the last day", x.cold(119, 1), 40000);
        C.due("both", x.cold(118, 2), 40000 - 2 * 5000);
        C.due("behind day 119 there is none", x.cold(118, 30), 40000 - 2 * 5000);
        C.due("behind day 119 there is none", x.cold(119, 30), 40000);
        C.due("the one", x.cold(118, 1), -10000);
        C.due("runner 1", x.cold(1118, 1), -2 * (30 * 900 - 10));
        C.says(30, "A COLD: from a DAY so many DAYS (1 .. 30) are rest, in thought: GAINED less.");
        C.due("30 to day 117", x.cold(88, 30), 0);
        C.due("30 to day 118", x.cold(89, 30), -10000);
        C.due("in thought", x.of(118) * 10 + x.of(119), 12);
        C.each("n", n -> x.cold(0, n), VOID, 0, -1, 31, MIN, MAX);
        C.says(30, "VOID: BAD.");
        C.each("rd", rd -> x.cold(rd, 1), VOID, NO_RUNNERS_DAYS);
        C.due("no runner yet", new FitOnDay().cold(0, 1), VOID);
        x.forget();
        C.due("nothing counts", x.cold(118, 30), 0);
    }

    private static void lines() {
        FitOnDay x = made();
        C.says(31, "NOT: no COUNTING DAYS.");
        C.each("nothing counts", what -> x.lines(0, 100, what), NOT, 0, 1);
        C.each("what: ahead of NOT", what -> x.lines(0, 100, what), VOID, -1, 2, MIN, MAX);
        C.each("we: ahead of NOT", we -> x.lines(0, we, 0), VOID, -1, -100, 300, 399, 600, MIN, MAX);
        C.each("runner: ahead of NOT", runner -> x.lines(runner, 100, 0), VOID, -1, 2, 5, MIN, MAX);
        x.counts(2, 9);
        x.counts(10, 1);
        C.says(31, "THREE LINES: WORK w on DAYS 1, 3, 5 of each WEEK till e days ahead of the last COUNTING DAY, else rest: GAINED;");
        // days 1, 3, 5, 8, 10: 9 * 5000 + 10, 10 * 7, 10 * 31, 10 * 250, 10 * 1000
        int all = 45000 + 10 + 70 + 310 + 2500 + 10000;
        C.due("to the last day, it too", x.lines(0, 100, 0), all);
        C.due("e 1", x.lines(0, 101, 0), all - 10000);
        C.due("e 2", x.lines(0, 102, 0), all - 10000);
        C.due("e 3", x.lines(0, 103, 0), all - 12500);
        C.due("e 9", x.lines(0, 109, 0), 45010);
        C.due("e 10", x.lines(0, 110, 0), 0);
        C.says(31, "we: 100 times the WORK and e (0 .. 99).");
        C.due("e 99", x.lines(0, 199, 0), 0);
        C.due("work 2, e 99", x.lines(0, 299, 0), 0);
        C.due("work 2, e 9", x.lines(0, 209, 0), x.worth(1, 2));
        C.each("rest", we -> x.lines(0, we, 0), 0, 0, 50, 99);
        C.says(31, "LOSES: BEST WORKS with 3 less that.");
        C.due("some", x.lines(0, 100, 1), x.best(0, 3, -1) - all);
        C.due("all", x.lines(0, 199, 1), x.best(0, 3, -1));
        C.due("more than all: the works are worth less than rest", x.lines(0, 209, 1), x.best(0, 3, -1) - x.worth(1, 2));
        C.says(31, "THREE LINES: GAINED (what 0), LOSES (1).");
        C.due("runner 1", x.lines(1, 109, 0), x.worth(1001, 1));
        C.due("runner 1", x.lines(1, 109, 1), x.best(1, 3, -1) - x.worth(1001, 1));
        C.due("the plan stays", x.count(2), 0);
        x.plan(10, 2);
        C.due("whatever the plan is", x.lines(0, 110, 0), 0);
        C.says(31, "VOID: BAD; NOT");
        C.each("what", what -> x.lines(0, 100, what), VOID, -1, 2, MIN, MAX);
        C.each("we", we -> x.lines(0, we, 0), VOID, -1, -100, 300, 399, 600, MIN, MAX);
        C.each("runner", runner -> x.lines(runner, 100, 0), VOID, -1, 2, 5, MIN, MAX);
        x.forget();
        x.counts(119, 1);
        // 119 is the first of its week: 117 is the last of the lines
        C.due("to day 119", x.lines(0, 100, 0), x.lines(0, 102, 0));
        x.runner(999001, 1000);
        C.due("e 99: to day 20", x.lines(2, 199, 0), ofLines(x, 20));
        C.due("e 98: to day 21", x.lines(2, 198, 0), ofLines(x, 21));
        C.due("e 97: to day 22", x.lines(2, 197, 0), ofLines(x, 22));
        C.holds("that is one more", ofLines(x, 22) > ofLines(x, 21) && ofLines(x, 21) == ofLines(x, 20));
        C.due("to day 116", x.lines(0, 100, 0) - x.lines(0, 103, 0), x.worth(117, 1));
    }

    /** Runner 2's worths of work 1 on the lines' days to one. */
    private static int ofLines(FitOnDay x, int last) {
        int all = 0;
        for (int d = 0; d <= last; d++) if (d % 7 == 1 || d % 7 == 3 || d % 7 == 5) all += x.worth(2000 + d, 1);
        return all;
    }

    private static void years() {
        FitOnDay x = made();
        C.says(32, "nw: 10 n and what.");
        C.each("nw", nw -> x.years(0, 1, nw), VOID, -1, -10, 0, 1, 9, 12, 19, 502, 510, 511, MIN, MAX);
        C.says(32, "VOID: BAD.");
        C.each("runner", runner -> x.years(runner, 1, 10), VOID, -1, 2, 5, MIN, MAX);
        C.each("BAD ahead of NOT", runner -> x.years(runner, 1, 11), VOID, -1, 2);
        C.says(32, "YEARS: how often hurt (what 0), mean FIT (1; NOT: no COUNTING DAYS).");
        C.each("no law", nw -> x.years(0, 1, nw), 0, 10, 500);
        C.each("nothing counts", nw -> x.years(0, 1, nw), NOT, 11, 501);
        x.counts(2, 1);
        for (int d = 0; d < 3; d++) x.plan(d, 1);
        C.each("never hurt: fit as planned", nw -> x.years(0, 1, nw), x.fit(2, 0), 11, 501);
        C.says(32, "YEARS by a SEED: n times (1 .. 50): DAY by DAY of THE PLAN:");
        Check.take(x, 1, "1000");
        C.due("once: each 15th day of 120", x.years(0, 1, 10), 8);
        C.due("ten times", x.years(0, 1, 100), 80);
        C.due("fifty times", x.years(0, 1, 500), 400);
        Check.take(x, 1, "d=119?1000;0");
        C.due("the last day", x.years(0, 1, 500), 50);
        Check.take(x, 1, "d=0?1000;0");
        C.due("the first day", x.years(0, 1, 500), 50);
        Check.take(x, 1, "1000");
        C.says(32, "LOST days of rest then (no draws in them):");
        x.lost(60);
        C.due("each 61st", x.years(0, 1, 10), 2);
        x.lost(1);
        C.due("each second", x.years(0, 1, 10), 60);
        x.lost(59);
        C.due("days 0 and 60", x.years(0, 1, 10), 2);
        C.due("rest behind day 0", x.years(0, 5, 31), 2500);
        x.lost(1);
        C.due("rest on day 1", x.years(0, 5, 31), 2500 + 10000);
    }

    private static void draws() {
        FitOnDay x = made();
        C.says(32, "z = z * 1103515245 + 12345 (an int; SEED at first): hurt, if (z >>> 8) % 1000 is below RISK (of THE PLAN as told):");
        for (int seed : new int[] {0, 1, 7, -1, MIN, MAX, 123456789}) {
            int z = seed * 1103515245 + 12345;
            int drawn = (z >>> 8) % 1000;
            StringBuilder law = new StringBuilder("d=0?").append(drawn).append(";0");
            Check.take(x, 1, law.toString());
            C.due("drawn as much as the risk", x.years(0, seed, 10), 0);
            Check.take(x, 1, law.insert(law.length() - 2, "+1").toString());
            C.due("drawn one less", x.years(0, seed, 10), 1);
        }
        for (int d = 0; d < 20; d++) x.plan(d, 1 + d % 2);
        x.counts(19, 1);
        x.counts(3, 1);
        Check.take(x, 1, "t>30?400;w*50");
        int[] risks = new int[120];
        for (int d = 0; d < 120; d++) risks[d] = x.risk(d, 0);
        x.lost(3);
        for (int seed : new int[] {5, -77, MIN}) {
            int z = seed;
            int hurt = 0;
            long fits = 0;
            for (int year = 0; year < 50; year++) {
                int behind = -1;
                for (int d = 0; d < 120; d++) {
                    if (d <= behind) continue;
                    if (d <= 19) fits += points(1 + d % 2, 19 - d);
                    z = z * 1103515245 + 12345;
                    if ((z >>> 8) % 1000 >= risks[d]) continue;
                    hurt++;
                    behind = d + 3;
                }
            }
            C.says(32, "how often one is hurt in all;");
            C.due("fifty years", x.years(0, seed, 500), hurt);
            C.says(32, "the mean FIT (cut) on the last COUNTING DAY.");
            C.due("fifty years", x.years(0, seed, 501), fits / 50);
        }
        x.forget();
        x.counts(1, 1);
        x.mend(1, 0, 1);
        x.mend(1, 1, 0);
        x.mend(2, 0, 0);
        x.mend(2, 1, 0);
        x.mend(2, 0, 1);
        Check.take(x, 1, "d=0?500;0");
        int hurt = x.years(0, 1, 30);
        C.holds("hurt now and then", hurt == 1 || hurt == 2);
        // -1500 if whole, -500 if hurt
        C.due("below 0: cut toward 0", x.years(0, 1, 31), -(3 * 1500 - hurt * 1000) / 3);
        C.due("the plan stays", x.count(2), 20);
    }

    /** Of made's works for runner 0. */
    private static int points(int work, int k) {
        int left = 1000;
        for (int i = 0; i < k; i++) left /= 2;
        return (work == 1 ? 10 : -20) * left;
    }

    public static void main(String[] args) {
        tests();
        who();
        groups();
        ofThree();
        alike();
        colds();
        lines();
        years();
        draws();
        C.end();
    }
}
