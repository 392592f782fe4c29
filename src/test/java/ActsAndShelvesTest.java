/** Promises 35 to 44: plans, their acts, shelves, counts. */
public final class ActsAndShelvesTest {
    private static final int BAD = FitOnDay.BAD, FULL = FitOnDay.FULL;
    private static final int MIN = Integer.MIN_VALUE, MAX = Integer.MAX_VALUE;
    private static final long NONE = Long.MIN_VALUE;
    private static final Check C = new Check();

    /** Bodies 0 .. 7, each of the kind of its number. */
    private static FitOnDay ofEachKind() {
        FitOnDay x = new FitOnDay();
        for (int kind = 0; kind < 8; kind++) x.body(kind);
        return x;
    }

    private static void bodies() {
        FitOnDay x = new FitOnDay();
        C.says(35, "A PLAN of a KIND (0 .. 7) is kept: its number.");
        C.each("kind", x::body, BAD, -1, 8, MIN, MAX);
        C.due("none is kept", x.count(7), 0);
        C.says(35, "PLANS are kept by call as BODIES 0 .. 49, of KINDS:");
        for (int i = 0; i < 50; i++) C.due("body", x.body(i % 8), i);
        for (int i = 0; i < 50; i++) C.due("kept on a shelf", x.keep(0, i) * 10 + x.taken(0, 0), 10 + i % 8);
        C.says(35, "BAD, FULL.");
        C.each("a fifty-first", x::body, FULL, 0, 7);
        C.each("BAD ahead of FULL", x::body, BAD, -1, 8);
        C.due("so many", x.count(7), 50);
        C.due("there is no body 50", x.act(50, 0, 1), 0);
        C.due("49 is even: 49 + 3", x.act(49, 0, 0), 52);
    }

    /** Of the plan whose kind and number is told, an act with x 10: its answer, the bodies that ran. */
    private static void told(int kind, int act, int due, int... trace) {
        FitOnDay x = ofEachKind();
        StringBuilder call = new StringBuilder("act(").append(kind).append(", ").append(act).append(", 10)");
        C.due(call.toString(), x.act(kind, act, 10), due);
        C.due(call + ": how many", x.count(8), trace.length);
        for (int i = 0; i < trace.length; i++) C.due(call + ": trace " + i, x.trace(i), trace[i]);
        C.due(call + ": no more", x.trace(trace.length), BAD);
    }

    private static void acts() {
        C.says(36, "ACTS with x (an int that wraps): 0 works, 1 rests, 2 counts, 3 tells; n its number.");
        FitOnDay wraps = ofEachKind();
        C.due("works of 1", wraps.act(1, 0, MAX), MAX + 4);
        C.due("rests of 1", wraps.act(1, 1, MAX), (MAX + 4) * 2);
        C.due("rests of 2", wraps.act(2, 1, MAX - 1), 0);
        C.due("rests of 2", wraps.act(2, 1, 1 << 30), -((1 << 30) + 2) * 2);
        C.due("works of 3", wraps.act(3, 0, MAX), MIN + 3);
        C.due("counts of 3", wraps.act(3, 2, MAX), (MAX ^ 3) * 3);
        C.due("tells of 0", wraps.act(0, 3, MIN), -1);
        C.due("counts of 4", wraps.act(4, 2, MIN), (MIN ^ 4) - 6);
        C.due("tells of 7", wraps.act(7, 3, MIN), -((MIN + 8) * 2) + 15 - 18 - 1);
        C.says(36, "BODIES of acts: WORKS (an interface of PLAN): 1 works: x + n.");
        told(0, 0, 10, 1);
        told(2, 0, 12, 1);
        told(4, 0, 14, 1);
        C.says(36, "PLAN: 10 rests: works(x) * 2. 11 counts: x ^ n.");
        told(0, 1, 20, 10, 1);
        told(4, 1, 28, 10, 1);
        told(0, 2, 10, 11);
        told(1, 2, 11, 11);
        told(2, 2, 8, 11);
        told(5, 2, 15, 11);
        told(6, 2, 12, 11);
        C.says(36, "TELLS (of PLAN): 2 tells: rests(x) - counts(1).");
        told(0, 3, 19, 2, 10, 1, 11);
        told(2, 3, -27, 2, 30, 10, 1, 11);
        told(1, 3, 28, 2, 10, 20, 1, 11);
        C.says(36, "EVEN: 20 works: super.works(x) + 3.");
        told(1, 0, 14, 20, 1);
        told(1, 1, 28, 10, 20, 1);
        C.says(36, "BUILD: 30 rests: -super.rests(x).");
        told(2, 1, -24, 30, 10, 1);
        C.says(36, "HARD: 40 counts: super.counts(x) * 3. 41 works: super.works(x + 1).");
        told(3, 0, 14, 41, 1);
        told(3, 1, -28, 30, 10, 41, 1);
        told(3, 2, 27, 40, 11);
        told(3, 3, -34, 2, 30, 10, 41, 1, 40, 11);
        C.says(36, "BEST: 50 counts: super.counts(x) - works(2).");
        told(4, 2, 8, 50, 11, 1);
        told(4, 3, 29, 2, 10, 1, 50, 11, 1);
        C.says(36, "FEEL: 60 tells: super.tells(x) ^ 5.");
        told(5, 3, 37, 60, 2, 10, 20, 1, 11);
        told(5, 0, 18, 20, 1);
        told(5, 1, 36, 10, 20, 1);
        // 2 * (12 + 5 + 3) - (1 ^ 5) = 36
        C.due("36 ^ 5", ofEachKind().act(5, 3, 12), 33);
        C.says(36, "TOLD: 70 works: super.works(x) * 2.");
        told(6, 0, 32, 70, 1);
        told(6, 1, 64, 10, 70, 1);
        told(6, 3, 57, 2, 10, 70, 1, 11);
        C.says(36, "RESTED: 80 rests: super.rests(x) + counts(2). 81 tells: super.tells(x) - 1.");
        // -(2 * 18) + 3 * (2 ^ 7); that less 3 * (1 ^ 7), less 1
        told(7, 1, -21, 80, 30, 10, 41, 1, 40, 11);
        told(7, 3, -40, 81, 2, 80, 30, 10, 41, 1, 40, 11, 40, 11);
        C.says(36, "works(..) and so on: the body of its own KIND, or of the next KIND above that has one; super: from the KIND above the body's on.");
        told(7, 0, 18, 41, 1);
        told(7, 2, 39, 40, 11);
        FitOnDay twice = new FitOnDay();
        twice.body(6);
        twice.body(6);
        C.due("its own number", twice.act(0, 0, 10), 20);
        C.due("its own number", twice.act(1, 0, 10), 22);
    }

    private static void traces() {
        FitOnDay x = ofEachKind();
        C.says(37, "THE TRACE: numbers of the bodies that ran in the latest act(), as they began;");
        C.due("none yet", x.trace(0), BAD);
        x.act(7, 3, 10);
        x.act(4, 2, 1);
        C.due("the latest", 10000 * x.trace(0) + 100 * x.trace(1) + x.trace(2), 501101);
        C.due("no more of the longer one ahead", x.trace(3), BAD);
        x.act(7, 3, 10);
        int[] due = {81, 2, 80, 30, 10, 41, 1, 40, 11, 40, 11};
        for (int i = 0; i < due.length; i++) C.due("trace", x.trace(i), due[i]);
        C.says(37, "the first 24 are kept.");
        C.each("behind all that ran", x::trace, BAD, 11, 12, 22, 23, 24, 25);
        C.says(37, "THE TRACE's i-th body. BAD.");
        C.each("no such place", x::trace, BAD, -1, MIN, MAX);
        C.says(36, "An ACT (0 .. 3) of a PLAN with x. 0, and no TRACE then: no such PLAN, ACT.");
        int[][] none = {{8, 0}, {-1, 0}, {50, 0}, {MIN, 0}, {MAX, 0}, {0, 4}, {0, -1}, {0, MIN}, {0, MAX}};
        for (int[] n : none) {
            C.due("there is a plan", x.act(0, 0, 5), 5);
            C.due("no such plan, act", x.act(n[0], n[1], 5), 0);
            C.due("none ran", x.count(8), 0);
            C.due("no trace", x.trace(0), BAD);
        }
        C.due("no plan is kept", new FitOnDay().act(0, 0, 5), 0);
    }

    private static void keeps() {
        FitOnDay x = new FitOnDay();
        x.body(3);
        C.says(38, "A SHELF holds nothing (body -1), or a PLAN: 1.");
        C.due("a plan", x.keep(0, 0), 1);
        C.due("it is there", x.taken(0, 0), 3);
        C.due("on another too", x.keep(5, 0), 1);
        C.due("it is there", x.taken(5, 0), 3);
        C.due("nothing", x.keep(0, -1), 1);
        C.due("nothing is there", x.taken(0, 0), -11);
        C.due("nothing again", x.keep(0, -1), 1);
        C.due("the other one stays", x.taken(5, 0), 3);
        x.row(1, 2, 5);
        x.put(1, 0, 7);
        C.due("a plan for a row", x.keep(1, 0), 1);
        C.due("the row is away", x.put(1, 0, 1), -12);
        C.due("nothing", x.keep(1, -1), 1);
        C.due("the plan is away", x.put(1, 0, 1), -11);
        C.says(38, "BAD.");
        C.each("shelf", shelf -> x.keep(shelf, 0), BAD, -1, 6, MIN, MAX);
        C.each("shelf, nothing", shelf -> x.keep(shelf, -1), BAD, -1, 6, MIN, MAX);
        C.each("body", body -> x.keep(5, body), BAD, -2, 1, 49, 50, MIN, MAX);
        C.due("as it was", x.taken(5, 0), 3);
        C.due("no body yet", new FitOnDay().keep(0, 0), BAD);
    }

    private static void rows() {
        FitOnDay x = new FitOnDay();
        C.says(39, "SHELVES 0 .. 5 each hold nothing (at first),");
        for (int shelf = 0; shelf < 6; shelf++) C.due("put", x.put(shelf, 0, 1), -11);
        C.says(39, "BAD (sort, n above 60); -14.");
        C.each("shelf", shelf -> x.row(shelf, 0, 1), BAD, -1, 6, MIN, MAX);
        C.each("sort", sort -> x.row(0, sort, 1), BAD, -1, 5, MIN, MAX);
        C.each("n", n -> x.row(0, 0, n), BAD, 61, 62, MAX);
        C.says(39, "-14 a size below 0.");
        C.each("n", n -> x.row(0, 0, n), -14, -1, -2, -60, MIN);
        C.each("BAD ahead of -14", sort -> x.row(0, sort, -1), BAD, -1, 5);
        C.each("BAD ahead of -14", shelf -> x.row(shelf, 0, -1), BAD, -1, 6);
        C.due("nothing is there", x.put(0, 0, 1), -11);
        C.says(39, "A SHELF holds a ROW: 1.");
        for (int sort = 0; sort < 5; sort++) C.due("row", x.row(sort, sort, 60), 1);
        C.says(39, "of 0 .. 60 elements, 0 at first (false);");
        for (int sort = 0; sort < 5; sort++) {
            C.due("the first", x.element(sort, 0), 0);
            C.due("the last", x.element(sort, 59), 0);
            C.due("behind it", x.element(sort, 60), NONE);
            C.due("one there", x.put(sort, 0, 1) + x.put(sort, 59, 1), 2);
        }
        C.due("none", x.row(5, 0, 0), 1);
        C.due("no place", x.put(5, 0, 1), -13);
        C.due("one", x.row(5, 0, 1), 1);
        C.due("a place", x.put(5, 0, 1), 1);
        C.due("no second", x.put(5, 1, 1), -13);
        C.due("a new one", x.row(5, 0, 60), 1);
        C.due("0 again", x.element(5, 0), 0);
        C.due("of another sort", x.row(4, 3, 60), 1);
        C.due("0 again", x.element(4, 0) + x.element(4, 59), 0);
        C.due("the neighbour stays", x.element(3, 59), 1);
        C.due("refused", x.row(3, 3, -1), -14);
        C.due("as it was", x.element(3, 59), 1);
    }

    private static FitOnDay withSixFull() {
        FitOnDay x = new FitOnDay();
        x.body(3);
        for (int shelf = 0; shelf < 6; shelf++) {
            x.row(shelf, 3, 60);
            x.put(shelf, 0, 10 * shelf + 1);
            x.put(shelf, 59, 10 * shelf + 2);
        }
        return x;
    }

    private static void othersStay(FitOnDay x, int shelf) {
        for (int other = 0; other < 6; other++) {
            if (other == shelf) continue;
            C.due("the first of " + other, x.element(other, 0), 10 * other + 1);
            C.due("the last of " + other, x.element(other, 59), 10 * other + 2);
        }
    }

    private static void shelvesApart() {
        C.says(39, "A SHELF holds a ROW: 1.");
        for (int shelf = 0; shelf < 6; shelf++) {
            FitOnDay x = withSixFull();
            C.due("a new row", x.row(shelf, 0, 60), 1);
            othersStay(x, shelf);
            C.due("none in it", x.row(shelf, 0, 0), 1);
            othersStay(x, shelf);
        }
        C.says(38, "A SHELF holds nothing (body -1), or a PLAN: 1.");
        for (int shelf = 0; shelf < 6; shelf++) {
            FitOnDay x = withSixFull();
            C.due("a plan", x.keep(shelf, 0), 1);
            othersStay(x, shelf);
            C.due("nothing", x.keep(shelf, -1), 1);
            othersStay(x, shelf);
        }
        C.says(42, "n elements of a ROW from i on come to another one (or the same) from j on,");
        for (int shelf = 0; shelf < 6; shelf++) {
            FitOnDay x = withSixFull();
            C.due("all", x.shift((shelf + 1) % 6, 0, shelf, 0, 60), 60);
            C.due("up", x.shift(shelf, 0, shelf, 1, 59), 59);
            C.due("down", x.shift(shelf, 1, shelf, 0, 59), 59);
            othersStay(x, shelf);
        }
    }

    private static void elements() {
        FitOnDay x = new FitOnDay();
        x.body(3);
        for (int sort = 0; sort < 5; sort++) x.row(sort, sort, 10);
        long v = 0x123456789abcdef0L;
        long[] lowest = {(byte) 0xf0, (short) 0xdef0, 0x9abcdef0, v, 1};
        C.says(40, "a PLAN (a BODY), or a ROW: of 0 bytes, 1 shorts, 2 ints, 3 longs, 4 booleans,");
        for (int sort = 0; sort < 5; sort++) C.due("sort " + sort, x.put(sort, 0, v) == 1 ? x.element(sort, 0) : 0, lowest[sort]);
        C.says(40, "what is put in keeps its lowest bits (a boolean: whether it is not 0; 1 or 0).");
        long[][] puts = {
            {127, 127, 127, 127, 127, 1}, {128, -128, 128, 128, 128, 1}, {255, -1, 255, 255, 255, 1}, {256, 0, 256, 256, 256, 1},
            {-128, -128, -128, -128, -128, 1}, {-129, 127, -129, -129, -129, 1}, {-1, -1, -1, -1, -1, 1}, {0, 0, 0, 0, 0, 0},
            {32767, -1, 32767, 32767, 32767, 1}, {32768, 0, -32768, 32768, 32768, 1}, {-32769, -1, 32767, -32769, -32769, 1}, {65536, 0, 0, 65536, 65536, 1},
            {MAX, -1, -1, MAX, MAX, 1}, {1L + MAX, 0, 0, MIN, 1L + MAX, 1}, {1L << 32, 0, 0, 0, 1L << 32, 1}, {MIN - 1L, -1, -1, MAX, MIN - 1L, 1},
            {Long.MAX_VALUE, -1, -1, -1, Long.MAX_VALUE, 1}, {Long.MIN_VALUE, 0, 0, 0, Long.MIN_VALUE, 1}, {2, 2, 2, 2, 2, 1},
            {v, lowest[0], lowest[1], lowest[2], lowest[3], lowest[4]}};
        for (long[] p : puts) {
            for (int sort = 0; sort < 5; sort++) {
                C.due("put " + p[0] + " as sort " + sort, x.put(sort, 9, p[0]), 1);
                C.due("it is", x.element(sort, 9), p[1 + sort]);
            }
        }
        FitOnDay y = new FitOnDay();
        y.body(3);
        y.row(0, 0, 10);
        y.row(1, 3, 60);
        y.row(2, 3, 60);
        C.says(40, "Element i of a ROW becomes v: 1.");
        C.due("the last", y.put(1, 59, 7), 1);
        C.due("the first", y.put(1, 0, 8), 1);
        C.due("the last", y.element(1, 59), 7);
        C.due("the first", y.element(1, 0), 8);
        C.due("between", y.element(1, 1) + y.element(1, 58), 0);
        C.due("the neighbours", y.element(0, 9) + y.element(2, 0), 0);
        C.says(40, "BAD, -11, -12, -13.");
        C.each("shelf", shelf -> y.put(shelf, 0, 1), BAD, -1, 6, MIN, MAX);
        C.each("BAD ahead of -13", shelf -> y.put(shelf, -1, 1), BAD, -1, 6);
        C.each("nothing", i -> y.put(3, i, 1), -11, 0, -1, 60, MAX);
        y.keep(4, 0);
        C.each("a plan", i -> y.put(4, i, 1), -12, 0, -1, 60, MAX);
        C.each("no place", i -> y.put(0, i, 1), -13, -1, 10, 11, 59, 60, MIN, MAX);
        C.each("no place", i -> y.put(1, i, 1), -13, -1, 60, 61, -60, MIN, MAX);
        C.due("the neighbours", y.element(0, 9) + y.element(2, 0), 0);
        C.says(41, "Element i of a ROW; Long.MIN_VALUE: BAD, -11 to -13.");
        C.due("the last", y.element(1, 59), 7);
        for (int shelf : new int[] {-1, 6, MIN, MAX}) C.due("shelf", y.element(shelf, 0), NONE);
        for (int i : new int[] {0, -1, 60}) C.due("nothing", y.element(3, i), NONE);
        for (int i : new int[] {0, -1, 60}) C.due("a plan", y.element(4, i), NONE);
        for (int i : new int[] {-1, 10, 59, 60, MIN, MAX}) C.due("no place", y.element(0, i), NONE);
        for (int i : new int[] {-1, 60, 61, MIN, MAX}) C.due("no place", y.element(1, i), NONE);
    }

    private static void shiftsRefused() {
        FitOnDay x = new FitOnDay();
        x.body(0);
        x.row(0, 2, 6);
        x.row(1, 2, 4);
        x.row(2, 3, 6);
        x.keep(3, 0);
        for (int i = 0; i < 6; i++) x.put(0, i, i + 1);
        C.says(42, "BAD, -11 (either),");
        C.each("shelf", shelf -> x.shift(shelf, 0, 0, 0, 1), BAD, -1, 6, MIN, MAX);
        C.each("other", other -> x.shift(0, 0, other, 0, 1), BAD, -1, 6, MIN, MAX);
        C.due("BAD ahead of -11", x.shift(4, 0, 6, 0, 1), BAD);
        C.due("BAD ahead of -12", x.shift(6, 0, 3, 0, 1), BAD);
        C.due("the one is nothing", x.shift(4, 0, 0, 0, 1), -11);
        C.due("the other is nothing", x.shift(0, 0, 4, 0, 1), -11);
        C.due("both", x.shift(4, 0, 5, 0, 1), -11);
        C.due("one and the same", x.shift(4, 0, 4, 0, 0), -11);
        C.due("-11 ahead of -12", x.shift(3, 0, 4, 0, 1), -11);
        C.due("-11 ahead of -12", x.shift(4, 0, 3, 0, 1), -11);
        C.due("-11 ahead of -13", x.shift(0, 9, 4, 0, 1), -11);
        C.says(42, "-12 (no ROWS, or of unlike sorts),");
        C.due("a plan", x.shift(3, 0, 0, 0, 1), -12);
        C.due("to a plan", x.shift(0, 0, 3, 0, 1), -12);
        C.due("two plans, none of them", x.shift(3, 0, 3, 0, 0), -12);
        C.due("unlike sorts", x.shift(0, 0, 2, 0, 1), -12);
        C.due("unlike sorts, none of them", x.shift(2, 0, 0, 0, 0), -12);
        C.due("-12 ahead of -13", x.shift(0, 9, 2, 0, 1), -12);
        C.due("-12 ahead of -13", x.shift(3, -1, 3, -1, -1), -12);
        C.says(42, "-13 a place that is not there;");
        C.each("i", i -> x.shift(0, i, 1, 0, 1), -13, -1, 6, 7, MIN, MAX);
        C.each("j", j -> x.shift(0, 0, 1, j, 1), -13, -1, 4, 5, MIN, MAX);
        C.each("n", n -> x.shift(0, 0, 1, 0, n), -13, 5, 6, 7, MAX);
        C.each("n below 0", n -> x.shift(0, 0, 1, 0, n), -13, -1, -4, MIN);
        C.each("beyond the one", n -> x.shift(1, 2, 0, 0, n), -13, 3, 4, MAX, MAX - 1);
        C.each("beyond the other", n -> x.shift(0, 0, 1, 2, n), -13, 3, 4, MAX, MAX - 1);
        C.each("beyond both", n -> x.shift(0, 1, 1, 1, n), -13, 4, 6, MAX, MAX - 1);
        C.due("one beyond", x.shift(0, 2, 0, 0, 5), -13);
        C.due("one beyond", x.shift(0, 0, 0, 2, 5), -13);
        C.says(42, "-13 (with n 0, too, if i or j is above how many there are).");
        C.due("at the ends", x.shift(0, 6, 1, 4, 0), 0);
        C.due("above the one", x.shift(0, 7, 1, 4, 0), -13);
        C.due("above the other", x.shift(0, 6, 1, 5, 0), -13);
        C.due("below", x.shift(0, -1, 1, 0, 0), -13);
        C.due("below", x.shift(0, 0, 1, -1, 0), -13);
        x.row(4, 2, 0);
        C.due("of none", x.shift(4, 0, 4, 0, 0), 0);
        C.due("of none", x.shift(4, 0, 0, 6, 0), 0);
        C.due("one of none", x.shift(4, 0, 0, 0, 1), -13);
        C.due("one to none", x.shift(0, 0, 4, 0, 1), -13);
        C.due("above none", x.shift(4, 1, 0, 0, 0), -13);
        holds(x, 0, 1, 2, 3, 4, 5, 6);
        holds(x, 1, 0, 0, 0, 0);
    }

    private static void shifts() {
        FitOnDay x = new FitOnDay();
        x.row(0, 2, 6);
        x.row(1, 2, 4);
        for (int i = 0; i < 6; i++) x.put(0, i, i + 1);
        C.says(42, "n elements of a ROW from i on come to another one (or the same) from j on,");
        C.due("three", x.shift(0, 2, 1, 1, 3), 3);
        holds(x, 1, 0, 3, 4, 5);
        holds(x, 0, 1, 2, 3, 4, 5, 6);
        C.due("four", x.shift(0, 2, 1, 0, 4), 4);
        holds(x, 1, 3, 4, 5, 6);
        C.due("one", x.shift(0, 0, 1, 3, 1), 1);
        holds(x, 1, 3, 4, 5, 1);
        C.says(42, "as they all were before: n.");
        C.due("up", x.shift(0, 0, 0, 2, 4), 4);
        holds(x, 0, 1, 2, 1, 2, 3, 4);
        C.due("down", x.shift(0, 1, 0, 0, 5), 5);
        holds(x, 0, 2, 1, 2, 3, 4, 4);
        C.due("onto itself", x.shift(0, 0, 0, 0, 6), 6);
        holds(x, 0, 2, 1, 2, 3, 4, 4);
        C.due("none", x.shift(0, 3, 0, 0, 0), 0);
        holds(x, 0, 2, 1, 2, 3, 4, 4);
        long[] least = {Byte.MIN_VALUE, Short.MIN_VALUE, Integer.MIN_VALUE, Long.MIN_VALUE + 1, 1};
        for (int sort = 0; sort < 5; sort++) {
            x.row(2, sort, 60);
            x.row(3, sort, 60);
            for (int i = 0; i < 60; i += 59) x.put(2, i, least[sort]);
            C.due("sixty", x.shift(2, 0, 3, 0, 60), 60);
            C.due("the first", x.element(3, 0), least[sort]);
            C.due("between", x.element(3, 1) + x.element(3, 58), 0);
            C.due("the last", x.element(3, 59), least[sort]);
            C.due("to its end", x.shift(2, 0, 3, 59, 1), 1);
            C.due("fifty-nine", x.shift(2, 1, 3, 0, 59), 59);
            C.due("the last but one", x.element(3, 58), least[sort]);
        }
        C.due("a shelf on stays", x.row(4, 2, 3), 1);
        holds(x, 4, 0, 0, 0);
    }

    private static void holds(FitOnDay x, int shelf, long... due) {
        for (int i = 0; i < due.length; i++) C.due("element " + i, x.element(shelf, i), due[i]);
        C.due("no more", x.element(shelf, due.length), NONE);
    }

    private static void taken() {
        C.says(43, "What a SHELF holds, taken for a PLAN of KIND k (0 .. 7), or under it: its KIND.");
        int[][] above = {{0}, {1, 0}, {2, 0}, {3, 2, 0}, {4, 0}, {5, 1, 0}, {6, 0}, {7, 3, 2, 0}};
        FitOnDay x = ofEachKind();
        for (int kind = 0; kind < 8; kind++) x.keep(5, kind);
        C.due("the latest", x.taken(5, 0), 7);
        C.says(43, "0 PLAN; 1 EVEN under PLAN; 2 BUILD under PLAN; 3 HARD under BUILD;");
        for (int kind = 0; kind < 4; kind++) takenFor(x, kind, above[kind]);
        C.says(43, "4 BEST under PLAN; 5 FEEL under EVEN; 6 TOLD under PLAN; 7 RESTED under HARD.");
        for (int kind = 4; kind < 8; kind++) takenFor(x, kind, above[kind]);
        C.says(43, "BAD, -11, -12.");
        C.each("k", k -> x.taken(5, k), BAD, -1, 8, MIN, MAX);
        C.each("shelf", shelf -> x.taken(shelf, 0), BAD, -1, 6, MIN, MAX);
        C.each("nothing", k -> x.taken(0, k), -11, 0, 7);
        C.each("BAD ahead of -11", k -> x.taken(0, k), BAD, -1, 8);
        C.each("not under it", k -> x.taken(5, k), -12, 1, 4, 5, 6);
        for (int sort = 0; sort < 5; sort++) {
            x.row(sort, sort, 0);
            C.due("a row", x.taken(sort, 0), -12);
            C.due("BAD ahead of -12", x.taken(sort, 8), BAD);
        }
    }

    private static void takenFor(FitOnDay x, int kind, int[] itAndAbove) {
        x.keep(5, kind);
        for (int k = 0; k < 8; k++) {
            boolean is = false;
            for (int a : itAndAbove) is |= a == k;
            C.due("kind " + kind + " for " + k, x.taken(5, k), is ? kind : -12);
        }
    }

    private static void counts() {
        FitOnDay x = new FitOnDay();
        C.says(44, "BAD.");
        C.each("what", x::count, BAD, -1, 9, MIN, MAX);
        C.says(44, "How many: 0 WORKS, 1 RUNNERS, 2 DAYS that work, 3 COUNTING DAYS, 4 bytes on THE TAPE, 5 TESTS,");
        C.due("a new one", x.count(0), 1);
        C.each("a new one", x::count, 0, 1, 2, 3, 4, 5, 6, 7, 8);
        x.work(10100);
        x.work(10100);
        x.runner(1001, 1000);
        x.plan(0, 1);
        x.plan(119, 2);
        x.plan(2, 2);
        x.plan(2, 0);
        x.counts(3, 3);
        x.counts(4, 3);
        x.feed(3, 0);
        x.test(1, 1);
        x.body(2);
        x.body(7);
        x.body(7);
        x.act(2, 3, 1);
        int[] due = {3, 1, 2, 2, 3, 1, 4, 3, 11};
        for (int what = 0; what < 6; what++) C.due("count(" + what + ")", x.count(what), due[what]);
        C.says(44, "6 changes that may be UNDONE, 7 PLANS that are kept,");
        for (int what = 6; what < 8; what++) C.due("count(" + what + ")", x.count(what), due[what]);
        x.undo();
        C.due("one undone", x.count(6), 3);
        x.redo();
        C.due("done again", x.count(6), 4);
        C.says(44, "8 bodies that ran in the latest act() (all, kept or not).");
        C.due("eleven", x.count(8), 11);
        x.act(0, 0, 1);
        C.due("one", x.count(8), 1);
        x.act(0, 4, 1);
        C.due("none", x.count(8), 0);
    }

    public static void main(String[] args) {
        bodies();
        acts();
        traces();
        keeps();
        rows();
        shelvesApart();
        elements();
        shiftsRefused();
        shifts();
        taken();
        counts();
        C.end();
    }
}
