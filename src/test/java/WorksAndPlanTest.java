/** Promises 1 to 8, 33 and 34: works, runners, the plan, changes. */
public final class WorksAndPlanTest {
    private static final int BAD = FitOnDay.BAD, FULL = FitOnDay.FULL, STATE = FitOnDay.STATE, VOID = FitOnDay.VOID;
    private static final int MIN = Integer.MIN_VALUE, MAX = Integer.MAX_VALUE;
    private static final Check C = new Check();

    /** Runner 0 is not tired two days on, runner 1 has no strength left then: of both 998 of 1000 is left else. */
    private static FitOnDay withReaders() {
        FitOnDay x = new FitOnDay();
        x.runner(999001, 1000);
        x.runner(1999, 1000);
        return x;
    }

    private static int strengthens(FitOnDay x, int work) {
        return x.points(0, work, 2) / 998;
    }

    private static int tires(FitOnDay x, int work) {
        return -x.points(1, work, 2) / 998;
    }

    /** LONG of a work: by a law, on day 0. */
    private static int hours(FitOnDay x, int work) {
        Check.take(x, 1, "l");
        x.plan(0, work);
        return x.risk(0, 0);
    }

    private static void newObject() {
        FitOnDay x = new FitOnDay();
        C.says(1, "Rest alone, nobody.");
        int[] due = {1, 0, 0, 0, 0, 0, 0, 0, 0};
        for (int what = 0; what < due.length; what++) C.due("count(" + what + ")", x.count(what), due[what]);
        C.due("who", x.who(-1), STATE);
        C.due("a runner's fit", x.fit(0, 0), VOID);
        C.due("work 1", x.plan(0, 1), BAD);
        C.due("rest", x.plan(0, 0), 0);
        C.due("a trace", x.trace(0), BAD);
        C.due("a text", x.text(1), -100);
        C.says(1, "THE PLAN (of each DAY a WORK; 0 at first)");
        for (int day = 0; day < 120; day++) C.due("of(" + day + ")", x.of(day), 0);
        C.says(1, "SHELVES 0 .. 5 each hold nothing (at first)");
        for (int shelf = 0; shelf < 6; shelf++) C.due("taken", x.taken(shelf, 0), -11);
        C.says(1, "All memory is the class's own.");
        FitOnDay y = new FitOnDay();
        y.work(99999);
        y.runner(1001, 1000);
        y.plan(5, 1);
        y.counts(5, 1);
        y.test(5, 1);
        y.feed(1, 49);
        y.body(1);
        y.act(0, 0, 0);
        y.row(0, 0, 5);
        y.lost(1);
        for (int what = 0; what < due.length; what++) C.due("another's count(" + what + ")", x.count(what), due[what]);
        C.due("another's day", x.of(5), 0);
        C.due("another's shelf", x.taken(0, 0), -11);
        C.due("another's lost", x.lost(5), 14);
        C.due("another's trace", x.trace(0), BAD);
    }

    private static void work() {
        C.says(2, "A WORK: its number.");
        FitOnDay x = withReaders();
        for (int i = 1; i <= 5; i++) C.due("work", x.work(1000 * i), i);
        C.due("so many", x.count(0), 6);
        C.says(2, "WORKS 0 .. 5, as they come");
        for (int i = 1; i <= 5; i++) C.due("tires of " + i, tires(x, i), i);
        C.due("plan 5", x.plan(7, 5), 0);
        C.due("plan 6", x.plan(7, 6), BAD);
        C.says(2, "BAD, FULL.");
        C.each("a sixth", x::work, FULL, 0, 6000, 99999);
        C.each("BAD ahead of FULL", x::work, BAD, -1, 100000);
        C.due("so many still", x.count(0), 6);
        C.due("the last is as it was", tires(x, 5), 5);
        C.says(2, "(WORK 0 is rest, there from the beginning: 0, 0)");
        FitOnDay y = withReaders();
        C.due("the first that comes", y.work(0), 1);
        C.each("points of rest", k -> y.points(0, 0, k), 0, 0, 1, 119);
        C.each("points of rest", k -> y.points(1, 0, k), 0, 0, 1, 119);
        C.says(2, "tsl: 1000 TIRES, 10 STRENGTHENS, LONG.");
        int[] told = {12345, 99000, 990, 9};
        for (int i = 0; i < told.length; i++) {
            C.due("work(" + told[i] + ")", y.work(told[i]), 2 + i);
            C.due("its parts", 1000 * tires(y, 2 + i) + 10 * strengthens(y, 2 + i) + hours(y, 2 + i), told[i]);
        }
        C.says(2, "TIRES (0 .. 99), STRENGTHENS (0 .. 99), LONG (0 .. 9 hours)");
        FitOnDay z = withReaders();
        C.each("too small, too large", z::work, BAD, -1, -10, -1000, -99999, 100000, 100001, MIN, MAX);
        C.due("none came", z.count(0), 1);
        C.due("all greatest", z.work(99999), 1);
        C.due("all least", z.work(0), 2);
        C.due("greatest", 1000 * tires(z, 1) + 10 * strengthens(z, 1) + hours(z, 1), 99999);
        C.due("least", 1000 * tires(z, 2) + 10 * strengthens(z, 2) + hours(z, 2), 0);
    }

    private static void mend() {
        FitOnDay x = withReaders();
        x.work(12345);
        x.work(67890);
        C.says(3, "TIRES (what 0), STRENGTHENS (1) of a WORK (not rest) becomes v: what it was.");
        C.due("tires", x.mend(1, 0, 50), 12);
        C.due("strengthens", x.mend(1, 1, 60), 34);
        C.due("both", 1000 * tires(x, 1) + strengthens(x, 1), 50060);
        C.due("the other one stays", 1000 * tires(x, 2) + strengthens(x, 2), 67089);
        C.due("hours stay", hours(x, 1), 5);
        C.due("the last one", x.mend(2, 0, 1), 67);
        C.each("what it was", v -> x.mend(2, 1, v), 89, 89, 89);
        C.due("to 0", x.mend(1, 0, 0), 50);
        C.due("to 99", x.mend(1, 0, 99), 0);
        C.due("strengthens to 99", x.mend(1, 1, 99), 60);
        C.due("strengthens to 0", x.mend(1, 1, 0), 99);
        C.due("99 and 0", 1000 * tires(x, 1) + strengthens(x, 1), 99000);
        C.says(3, "BAD.");
        int changes = x.count(6);
        C.each("rest", what -> x.mend(0, what, 5), BAD, 0, 1);
        C.each("rest to what it is", v -> x.mend(0, 0, v), BAD, 0);
        C.each("no work", work -> x.mend(work, 0, 5), BAD, -1, 3, 6, MIN, MAX);
        C.each("no what", what -> x.mend(1, what, 5), BAD, -1, 2, MIN, MAX);
        C.each("tires to", v -> x.mend(1, 0, v), BAD, -1, 100, MIN, MAX);
        C.each("strengthens to", v -> x.mend(1, 1, v), BAD, -1, 100, MIN, MAX);
        C.due("as it was", 1000 * tires(x, 1) + strengthens(x, 1), 99000);
        C.due("no changes", x.count(6), changes);
        C.due("rest is rest", x.points(0, 0, 0), 0);
        C.due("no work yet", new FitOnDay().mend(1, 0, 5), BAD);
    }

    private static void runner() {
        FitOnDay x = new FitOnDay();
        C.says(4, "RUNNERS 0 .. 4, as they come");
        C.each("no runner yet", x::gained, VOID, 0, 1, 4, -1);
        C.says(4, "TIRED goes by FAST (1 .. 999 thousandths a day), STRENGTH goes by SLOW (1 .. 999 thousandths a day)");
        C.each("fs", fs -> x.runner(fs, 1000), BAD, 0, 1, 999, 1000, 5000, 999000, 1000000, 1000001, 1000999, MAX);
        C.each("fs below 0", fs -> x.runner(fs, 1000), BAD, -1, -1001, -999999, MIN);
        C.says(4, "a GIFT (500 .. 1500 thousandths)");
        C.each("gift", gift -> x.runner(1001, gift), BAD, 499, 1501, 0, -1000, MIN, MAX);
        C.due("nobody came", x.count(1), 0);
        C.says(4, "A RUNNER: its number.");
        C.due("least of all", x.runner(1001, 500), 0);
        C.due("greatest of all", x.runner(999999, 1500), 1);
        C.due("third", x.runner(500250, 1234), 2);
        C.due("fourth", x.runner(1999, 1000), 3);
        C.due("fifth", x.runner(999001, 1000), 4);
        C.says(4, "BAD, FULL.");
        C.due("sixth", x.runner(999001, 1000), FULL);
        C.due("BAD ahead of FULL", x.runner(0, 1000), BAD);
        C.due("BAD ahead of FULL", x.runner(1001, 499), BAD);
        C.due("so many", x.count(1), 5);
        C.due("runner 5", x.gained(5), VOID);
        C.says(4, "fs: 1000 FAST and SLOW.");
        x.work(1550); // 1 and 55
        C.due("fast 1, slow 999: two days on", x.points(3, 1, 2), -998);
        C.due("fast 999, slow 1: two days on", x.points(4, 1, 2), 55 * 998);
        C.says(4, "LEFT of 1000 behind k days: 1000, and for each day times (1000 less FAST, or SLOW) / 1000 (cut).");
        // 55 * 1234 / 1000 = 67 (cut); a quarter of strength goes by, half of what tires
        C.due("today", x.points(2, 1, 0), 67 * 1000 - 1000);
        C.due("a day ago", x.points(2, 1, 1), 67 * 750 - 500);
        C.due("two days ago", x.points(2, 1, 2), 67 * 562 - 250);
        C.due("three days ago: cut each day", x.points(2, 1, 3), 67 * 421 - 125);
        C.due("999 go by: 1 is left", x.points(1, 1, 1), 82 - 1);
        C.due("then none", x.points(1, 1, 2), 0);
        C.due("1 goes by", x.points(0, 1, 1), 27 * 999 - 999);
        C.due("and 1 again", x.points(0, 1, 2), 27 * 998 - 998);
        C.due("and 1 a day, as cut", x.points(0, 1, 119), 26 * (1000 - 119));
    }

    private static void plan() {
        FitOnDay x = new FitOnDay();
        x.work(10101);
        x.work(20202);
        C.says(5, "The WORK of a DAY becomes v: what it was.");
        C.due("day 5", x.plan(5, 1), 0);
        C.due("again", x.plan(5, 2), 1);
        C.due("the same", x.plan(5, 2), 2);
        C.due("it is", x.of(5), 2);
        C.due("its neighbours rest", x.of(4) + x.of(6), 0);
        C.due("to rest", x.plan(5, 0), 2);
        C.due("it was rest", x.plan(5, 1), 0);
        C.says(5, "DAYS 0 .. 119.");
        C.due("day 0", x.plan(0, 2), 0);
        C.due("day 119", x.plan(119, 1), 0);
        C.due("of 0", x.of(0), 2);
        C.due("of 119", x.of(119), 1);
        C.says(5, "BAD.");
        C.each("plan(day)", day -> x.plan(day, 1), BAD, -1, 120, 1000, MIN, MAX);
        C.each("plan(v)", v -> x.plan(5, v), BAD, -1, 3, 5, 6, MIN, MAX);
        C.due("day 5 stays", x.of(5), 1);
        C.due("days that work", x.count(2), 3);
        C.due("changes", x.count(6), 6);
        C.says(8, "Of a DAY the WORK.");
        C.due("of 5", x.of(5), 1);
        C.due("of a day that rests", x.of(1), 0);
        C.says(8, "BAD.");
        C.each("of", x::of, BAD, -1, 120, 1000, MIN, MAX);
    }

    /** Shelf 0 holds nothing, 1 to 4 a row of shorts, ints, longs, booleans, 5 bytes: 1, 2, 0, 1, 3, 1; works 1 and 2. */
    private static FitOnDay withRows() {
        FitOnDay x = new FitOnDay();
        x.work(10101);
        x.work(20202);
        for (int sort = 1; sort <= 4; sort++) x.row(sort, sort, 6);
        x.row(5, 0, 6);
        int[] told = {1, 2, 0, 1, 3, 1};
        for (int i = 0; i < 6; i++) x.put(5, i, told[i]);
        return x;
    }

    private static void weeksRefused() {
        FitOnDay x = withRows();
        x.plan(0, 1);
        x.plan(1, 1);
        x.undo();
        C.says(6, "n (1 .. 60) of them from a DAY on");
        C.each("n", n -> x.weeks(0, 5, 0, n), BAD, 0, -1, 61, MIN, MAX);
        C.each("day", day -> x.weeks(day, 5, 0, 1), BAD, -1, 120, MIN, MAX);
        C.says(6, "BAD, -12 (no ROW of bytes;");
        C.each("shelf", shelf -> x.weeks(0, shelf, 0, 1), BAD, -1, 6, MIN, MAX);
        C.each("another sort", shelf -> x.weeks(0, shelf, 0, 1), -12, 1, 2, 3, 4);
        C.due("another sort from a place that is not there", x.weeks(0, 1, -1, 1), -12);
        x.row(1, 1, 0);
        C.due("an empty row of shorts", x.weeks(0, 1, 0, 1), -12);
        x.body(0);
        x.keep(1, 0);
        C.due("a plan", x.weeks(0, 1, 0, 1), -12);
        C.due("BAD ahead of -12", x.weeks(0, 1, 0, 0), BAD);
        C.due("BAD ahead of -12", x.weeks(120, 1, 0, 1), BAD);
        C.due("the plan stays", x.of(0) * 10 + x.of(1), 10);
        C.due("changes stay", x.count(6), 1);
        C.due("one may be done again still", x.redo(), 0);
    }

    private static void weeks() {
        FitOnDay x = withRows();
        C.says(6, "WEEKS FROM A ROW on a SHELF, from place i on,");
        for (int day = 14; day < 30; day++) x.plan(day, 2);
        C.due("from place 0", x.weeks(10, 5, 0, 3), 3);
        C.due("what came", x.of(10) * 100 + x.of(11) * 10 + x.of(12), 120);
        C.due("from place 1", x.weeks(20, 5, 1, 3), 3);
        C.due("what came", x.of(20) * 100 + x.of(21) * 10 + x.of(22), 201);
        C.due("from place 5", x.weeks(24, 5, 5, 1), 1);
        C.due("what came", x.of(24), 1);
        C.says(6, "WEEKS FROM A ROW of bytes, from a place on: WORKS of DAYS from a DAY on, n of them");
        C.due("no more than n", x.weeks(26, 5, 1, 2), 2);
        C.due("rest comes too", x.of(26) * 100 + x.of(27) * 10 + x.of(28), 202);
        C.says(6, "how many came.");
        C.due("one", x.weeks(0, 5, 0, 1), 1);
        C.due("none", x.weeks(0, 5, 4, 1), 0);
        C.says(6, "(CHANGES are none then)");
        x.plan(60, 1);
        x.plan(61, 1);
        x.undo();
        C.due("weeks", x.weeks(0, 5, 0, 1), 1);
        C.due("undo", x.undo(), STATE);
        C.due("redo", x.redo(), STATE);
        C.due("what was told stays", x.of(60) * 10 + x.of(61), 10);
        x.plan(61, 1);
        C.due("weeks of which none comes", x.weeks(0, 5, 4, 1), 0);
        C.due("undo", x.undo(), STATE);
        C.says(6, "a SHELF that holds nothing is missing).");
        x.plan(0, 2);
        C.due("from it", x.weeks(0, 0, 0, 5), 0);
        C.due("from any place of it", x.weeks(0, 0, 70, 5), 0);
        x.keep(5, -1);
        C.due("emptied", x.weeks(0, 5, 0, 5), 0);
        C.due("the day stays", x.of(0), 2);
    }

    private static void weeksEnd() {
        FitOnDay x = withRows();
        for (int day = 0; day < 60; day += 3) x.plan(day, 2);
        C.says(6, "it ends where the row is missing, ends, one is no WORK, or behind DAY 119: those ahead came.");
        C.due("missing", x.weeks(0, 0, 0, 60), 0);
        C.due("the row ends", x.weeks(0, 5, 5, 60), 1);
        C.due("one came", x.of(0), 1);
        C.due("the next is as it was", x.of(3), 2);
        C.due("at its end", x.weeks(0, 5, 6, 1), 0);
        C.each("far behind its end", i -> x.weeks(0, 5, i, 2), 0, 7, 60, 61, 360, MAX - 1, MAX);
        C.each("ahead of its first place", i -> x.weeks(0, 5, i, 3), 0, -1, -2, -60, MIN, MIN + 1);
        C.due("3 is no work", x.weeks(3, 5, 2, 4), 2);
        C.due("two came", x.of(3) * 10 + x.of(4), 1);
        C.due("where it ended all is as it was", x.of(6), 2);
        C.due("nor behind it", x.of(9), 2);
        x.work(30303);
        C.due("3 is a work now", x.weeks(3, 5, 2, 4), 4);
        C.due("it came", x.of(5), 3);
        x.put(5, 0, 255);
        C.due("-1 is no work", x.weeks(40, 5, 0, 2), 0);
        x.put(5, 0, 128);
        C.due("-128 is no work", x.weeks(40, 5, 0, 2), 0);
        x.put(5, 0, 127);
        C.due("127 is no work", x.weeks(40, 5, 0, 2), 0);
        x.put(5, 0, 256 + 2);
        C.due("the lowest bits are 2", x.weeks(40, 5, 0, 1), 1);
        C.due("2 came", x.of(40), 2);
        x.row(5, 0, 0);
        C.due("an empty row", x.weeks(0, 5, 0, 1), 0);
        x.row(5, 0, 60);
        for (int i = 0; i < 60; i++) x.put(5, i, 1 + i % 3);
        C.due("behind day 119", x.weeks(119, 5, 0, 2), 1);
        C.due("day 119", x.of(119), 1);
        C.due("behind day 119", x.weeks(61, 5, 1, 59), 59);
        C.due("behind day 119", x.weeks(62, 5, 0, 60), 58);
        C.due("day 119", x.of(119), 1 + 57 % 3);
        C.due("a whole row to day 119", x.weeks(60, 5, 0, 60), 60);
        C.due("day 60", x.of(60), 1);
        C.due("day 119", x.of(119), 3);
        C.due("day 59 rests", x.of(59), 0);
        C.due("a whole row from day 0", x.weeks(0, 5, 0, 60), 60);
        C.due("60 of it behind place 1 are 59", x.weeks(0, 5, 1, 60), 59);
        C.due("day 59 as it was", x.of(59), 3);
    }

    private static void shapesRefused() {
        FitOnDay x = new FitOnDay();
        x.work(10101);
        x.plan(0, 1);
        x.plan(1, 1);
        x.undo();
        C.says(7, "sw: 10 times 0 EVEN, 1 BUILD, and the WORK;");
        C.each("sw", sw -> x.shape(sw, 11, 9), BAD, -1, -10, 2, 9, 12, 19, 20, 21, 30, 100, MIN, MAX);
        C.says(7, "ab: 10 a and b;");
        C.each("ab", ab -> x.shape(1, ab, 9), BAD, -1, -10, 8, 9, 18, 19, 78, 80, 81, 90, 100, 177, MIN, MAX);
        C.each("ab of build", ab -> x.shape(11, ab, 9), BAD, -1, 8, 80);
        C.says(7, "SHAPES with one WORK w and PARTS a, b (0 .. 7)");
        C.each("a 8", sw -> x.shape(sw, 80, 9), BAD, 1, 11);
        C.each("b 8", sw -> x.shape(sw, 8, 9), BAD, 1, 11);
        C.says(7, "ft: 1000 times the first DAY and the last one (not less;");
        C.each("ft", ft -> x.shape(1, 11, ft), BAD, -1, -1000, 120, 999, 120119, 120120, 119120, MIN, MAX);
        C.each("less", ft -> x.shape(1, 11, ft), BAD, 1000, 2001, 119118, 119000);
        C.says(7, "BAD.");
        C.due("no work yet", new FitOnDay().shape(1, 11, 9), BAD);
        C.due("the plan stays", x.of(0) * 10 + x.of(1), 10);
        C.due("changes stay", x.count(6), 1);
        C.due("one may be done again still", x.redo(), 0);
    }

    private static void even() {
        FitOnDay x = new FitOnDay();
        x.work(10101);
        x.plan(0, 1);
        x.plan(119, 1);
        C.says(7, "EVEN: a of each WEEK's DAYS (the first a), from a DAY to a DAY;");
        // the first 2 of 3..9, of 10..16, of 17..18
        C.due("how many", x.shape(1, 27, 3018), 6);
        int[] working = {3, 4, 10, 11, 17, 18};
        int at = 0;
        for (int day = 0; day < 120; day++) {
            boolean due = at < working.length && working[at] == day;
            if (due) at++;
            C.due("of(" + day + ")", x.of(day), due ? 1 : 0);
        }
        C.says(7, "all other DAYS rest;");
        C.due("ahead of it", x.of(0), 0);
        C.due("behind it", x.of(119), 0);
        C.due("those alone", x.count(2), 6);
        C.says(7, "EVEN, BUILD: THE PLAN becomes it; how many DAYS work.");
        C.due("all", x.shape(1, 70, 119), 120);
        C.due("all", x.count(2), 120);
        C.due("of rest", x.shape(0, 70, 119), 0);
        C.due("none", x.count(2), 0);
        C.due("a 0", x.shape(1, 7, 119), 0);
        C.due("a 1: 18 weeks", x.shape(1, 10, 119), 18);
        C.due("the last day alone", x.shape(1, 10, 119119), 1);
        C.due("of 119", x.of(119), 1);
        C.due("the first day alone", x.shape(1, 77, 0), 1);
        C.due("of 0", x.of(0), 1);
        C.says(7, "They become THE PLAN (CHANGES are none then).");
        x.plan(60, 1);
        x.plan(61, 1);
        x.mend(1, 0, 5);
        x.undo();
        C.due("shape", x.shape(1, 10, 0), 1);
        C.due("undo", x.undo(), STATE);
        C.due("redo", x.redo(), STATE);
        C.due("what was told is away", x.of(60), 0);
    }

    private static void build() {
        FitOnDay x = new FitOnDay();
        x.work(10101);
        C.says(7, "BUILD: in WEEK i of these a and i b / 4 (cut), 7 at most.");
        // with b 3: 1 and 0, 0, 1, 2, 3 more
        C.due("to day 34", x.shape(11, 13, 34), 1 + 1 + 2 + 3 + 4);
        C.due("week 0", x.of(0) * 10 + x.of(1), 10);
        C.due("week 1", x.of(7) * 10 + x.of(8), 10);
        C.due("week 2", x.of(15) * 10 + x.of(16), 10);
        C.due("week 3", x.of(23) * 10 + x.of(24), 10);
        C.due("week 4", x.of(31) * 10 + x.of(32), 10);
        // with b 1: 0 to week 3, 1 to 7, 2 to 11, 3 to 15, 4 in week 16 and on day 119 of week 17
        C.due("a 0, b 1", x.shape(11, 1, 119), 4 + 8 + 12 + 4 + 1);
        C.due("a 0, b 0", x.shape(11, 0, 119), 0);
        C.due("a 3, b 0", x.shape(11, 30, 119), 17 * 3 + 1);
        // with b 7: 7 at most from week 1 on if a is 6, 6 and 1 (7 / 4, cut)
        C.due("6 in week 0, 7 then", x.shape(11, 67, 119), 119);
        C.due("of 6", x.of(6), 0);
        C.due("of 13", x.of(13), 1);
        C.due("7 at most", x.shape(11, 77, 13), 14);
        C.due("7 at most: the week behind", x.shape(11, 77, 20), 21);
        C.due("of rest", x.shape(10, 77, 119), 0);
        C.says(7, "WEEK i from the first DAY on by sevens).");
        C.due("from 60 on as from 0 on", x.shape(11, 13, 60094), 11);
        C.due("its week 0", x.of(60) * 10 + x.of(61), 10);
        C.due("its week 4", x.of(91) * 10 + x.of(92), 10);
        C.due("to within week 4", x.shape(11, 13, 60089), 9);
    }

    private static void undoAndRedo() {
        FitOnDay x = withReaders();
        x.work(10101);
        C.says(33, "STATE: none.");
        C.due("undo", x.undo(), STATE);
        C.says(34, "STATE: none.");
        C.due("redo", x.redo(), STATE);
        C.says(33, "CHANGES (WORKS of DAYS by telling, TIRES, STRENGTHENS that become another one;");
        x.plan(3, 1);
        x.mend(1, 0, 20);
        x.mend(1, 1, 30);
        C.due("three", x.count(6), 3);
        C.says(33, "telling the same number is none)");
        x.plan(3, 1);
        x.plan(4, 0);
        x.mend(1, 0, 20);
        x.mend(1, 1, 30);
        C.due("three still", x.count(6), 3);
        C.says(33, "can be UNDONE, the latest first,");
        C.due("strengthens", x.undo(), 2);
        C.due("20 and 10", 1000 * tires(x, 1) + strengthens(x, 1), 20010);
        C.due("tires", x.undo(), 1);
        C.due("10 and 10", 1000 * tires(x, 1) + strengthens(x, 1), 10010);
        C.due("planned still", x.of(3), 1);
        C.says(33, "UNDONE: how many may still be.");
        C.due("the day", x.undo(), 0);
        C.due("rest", x.of(3), 0);
        C.due("none", x.undo(), STATE);
        C.due("none again", x.undo(), STATE);
        C.says(34, "and DONE AGAIN");
        C.due("the day", x.redo(), 2);
        C.due("work", x.of(3), 1);
        C.due("it may be undone", x.count(6), 1);
        C.due("tires", x.redo(), 1);
        C.due("20 and 10", 1000 * tires(x, 1) + strengthens(x, 1), 20010);
        C.says(34, "DONE AGAIN: how many may still be.");
        C.due("undone once more", x.undo(), 1);
        C.due("tires", x.redo(), 1);
        C.due("strengthens", x.redo(), 0);
        C.due("20 and 30", 1000 * tires(x, 1) + strengthens(x, 1), 20030);
        C.due("none", x.redo(), STATE);
        C.due("none again", x.redo(), STATE);
        C.due("three", x.count(6), 3);
    }

    private static void anotherChange() {
        FitOnDay x = withReaders();
        x.work(10101);
        x.plan(3, 1);
        x.plan(4, 1);
        x.undo();
        C.says(34, "(as long as no other came behind)");
        C.due("the same told again is none", x.plan(3, 1), 1);
        C.due("nor is what is refused", x.plan(3, 5), BAD);
        C.due("nor a work", x.work(5), 2);
        C.due("nor a counting day", x.counts(5, 1), 1);
        C.due("redo", x.redo(), 0);
        x.undo();
        x.plan(9, 1);
        C.due("another day came", x.redo(), STATE);
        C.due("day 4 stays", x.of(4), 0);
        x.undo();
        x.mend(1, 0, 5);
        C.due("tires came", x.redo(), STATE);
        x.undo();
        x.mend(1, 1, 5);
        C.due("strengthens came", x.redo(), STATE);
        x.undo();
        C.due("undone to the first", x.undo(), 0);
        C.due("and again", x.redo(), 1);
        C.due("a change that makes it as it was is one", x.plan(3, 0), 1);
        C.due("redo", x.redo(), STATE);
        C.due("two may be undone", x.undo(), 1);
        C.due("day 3", x.of(3), 1);
        C.says(33, "CHANGES (WORKS of DAYS by telling");
        x.row(0, 0, 5);
        x.weeks(20, 0, 0, 5);
        C.due("by weeks: none", x.count(6), 0);
        x.shape(1, 70, 9);
        C.due("by a shape: none", x.count(6), 0);
        x.plan(60, 1);
        x.undo();
        x.feel(0, 1);
        C.due("by feel: none", x.count(6), 0);
        C.due("nothing to be done again", x.redo(), STATE);
    }

    private static void fortyAreKept() {
        FitOnDay x = withReaders();
        x.work(10100);
        x.work(10100);
        C.says(33, "40 at most are kept.");
        x.plan(0, 1);
        x.plan(1, 1);
        x.mend(1, 0, 11);
        x.mend(2, 1, 12);
        for (int i = 0; i < 36; i++) x.plan(50 + i, 2);
        C.due("40", x.count(6), 40);
        x.plan(100, 1);
        C.due("40 of 41", x.count(6), 40);
        x.plan(101, 1);
        C.due("40 of 42", x.count(6), 40);
        for (int i = 39; i >= 2; i--) C.due("undo", x.undo(), i);
        C.due("days are undone", x.count(2), 2);
        C.due("mended still", strengthens(x, 2), 12);
        C.due("undo strengthens of 2", x.undo(), 1);
        C.due("as it was", strengthens(x, 2), 10);
        C.due("mended still", tires(x, 1), 11);
        C.due("undo tires of 1", x.undo(), 0);
        C.due("as it was", tires(x, 1), 10);
        C.due("the oldest can't", x.undo(), STATE);
        C.due("the oldest stay", x.of(0) * 10 + x.of(1), 11);
        C.says(34, "40 at most are kept.");
        for (int i = 39; i >= 0; i--) C.due("redo", x.redo(), i);
        C.due("no more", x.redo(), STATE);
        C.due("all again", x.count(2), 2 + 36 + 2);
        C.due("tires", tires(x, 1), 11);
        C.due("strengthens", strengthens(x, 2), 12);
        C.due("the latest", x.of(101), 1);
        x.undo();
        x.plan(102, 1);
        C.due("40 again", x.count(6), 40);
        C.due("undo the latest", x.undo(), 39);
        C.due("that one", x.of(102), 0);
        C.due("not the one ahead", x.of(100), 1);
    }

    public static void main(String[] args) {
        newObject();
        work();
        mend();
        runner();
        plan();
        weeksRefused();
        weeks();
        weeksEnd();
        shapesRefused();
        even();
        build();
        undoAndRedo();
        anotherChange();
        fortyAreKept();
        C.end();
    }
}
