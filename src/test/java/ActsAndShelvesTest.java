/** Promises 35 to 44: plans, their acts, shelves, counts. */
public final class ActsAndShelvesTest {
    private static final long NONE = Long.MIN_VALUE;
    private static final Check C = new Check();

    /** Answer and trace of an act of a plan of each kind, whose number is its kind, with x 10. */
    private static void acts() {
        FitOnDay x = new FitOnDay();
        for (int kind = 0; kind < 8; kind++) C.due("body", x.body(kind), kind);
        told(x, 0, 0, 10, 1);
        told(x, 0, 1, 20, 10, 1);
        told(x, 0, 2, 10, 11);
        told(x, 0, 3, 19, 2, 10, 1, 11);
        told(x, 1, 0, 14, 20, 1);
        told(x, 1, 1, 28, 10, 20, 1);
        told(x, 1, 2, 11, 11);
        told(x, 1, 3, 28, 2, 10, 20, 1, 11);
        told(x, 2, 0, 12, 1);
        told(x, 2, 1, -24, 30, 10, 1);
        told(x, 2, 3, -27, 2, 30, 10, 1, 11);
        told(x, 3, 0, 14, 41, 1);
        told(x, 3, 1, -28, 30, 10, 41, 1);
        told(x, 3, 2, 27, 40, 11);
        told(x, 3, 3, -34, 2, 30, 10, 41, 1, 40, 11);
        told(x, 4, 2, 8, 50, 11, 1);
        told(x, 4, 3, 29, 2, 10, 1, 50, 11, 1);
        told(x, 5, 0, 18, 20, 1);
        told(x, 5, 3, 37, 60, 2, 10, 20, 1, 11);
        told(x, 6, 0, 32, 70, 1);
        told(x, 6, 1, 64, 10, 70, 1);
        told(x, 6, 3, 57, 2, 10, 70, 1, 11);
        told(x, 7, 0, 18, 41, 1);
        // -(2 * 18) + 3 * (2 ^ 7)
        told(x, 7, 1, -21, 80, 30, 10, 41, 1, 40, 11);
        told(x, 7, 2, 39, 40, 11);
        // -21 - 3 * (1 ^ 7) - 1
        told(x, 7, 3, -40, 81, 2, 80, 30, 10, 41, 1, 40, 11, 40, 11);
        C.due("wraps", x.act(1, 1, Integer.MAX_VALUE), (Integer.MAX_VALUE + 4) * 2);
        C.due("trace -1", x.trace(-1), -1);
        C.due("trace behind", x.trace(3), -1);
        C.due("trace far behind", x.trace(24), -1);
        int[][] none = {{8, 0}, {-1, 0}, {0, 4}, {0, -1}};
        for (int[] n : none) {
            x.act(0, 0, 1);
            C.due("no such plan, act", x.act(n[0], n[1], 5), 0);
            C.due("no trace then", x.count(8), 0);
            C.due("no trace then", x.trace(0), -1);
        }
    }

    private static void told(FitOnDay x, int plan, int act, int due, int... trace) {
        String call = "act(" + plan + ", " + act + ", 10)";
        C.due(call, x.act(plan, act, 10), due);
        C.due(call + ": how many", x.count(8), trace.length);
        for (int i = 0; i < trace.length; i++) C.due(call + ": trace " + i, x.trace(i), trace[i]);
        C.due(call + ": no more", x.trace(trace.length), -1);
    }

    private static void bodies() {
        FitOnDay x = new FitOnDay();
        C.due("kind -1", x.body(-1), -1);
        C.due("kind 8", x.body(8), -1);
        for (int i = 0; i < 50; i++) C.due("body", x.body(i % 8), i);
        C.due("FULL", x.body(0), -3);
        C.due("BAD ahead of FULL", x.body(8), -1);
        C.due("count(7)", x.count(7), 50);
        C.due("49 is even: + 3", x.act(49, 0, 0), 52);
    }

    private static void rows() {
        FitOnDay x = new FitOnDay();
        x.body(3);
        C.due("shelf 6", x.row(6, 0, 1), -1);
        C.due("shelf -1", x.row(-1, 0, 1), -1);
        C.due("sort 5", x.row(0, 5, 1), -1);
        C.due("sort -1", x.row(0, -1, 1), -1);
        C.due("61", x.row(0, 0, 61), -1);
        C.due("-1", x.row(0, 0, -1), -14);
        C.due("BAD ahead of -14", x.row(0, 5, -1), -1);
        C.due("nothing yet", x.put(0, 0, 1), -11);
        C.due("nothing yet", x.element(0, 0), NONE);
        long v = 0x123456789abcdef0L;
        long[] lowest = {(byte) 0xf0, (short) 0xdef0, 0x9abcdef0, v, 1};
        for (int sort = 0; sort < 5; sort++) {
            C.due("row", x.row(sort, sort, 60), 1);
            C.due("0 at first", x.element(sort, 59), 0);
            C.due("put", x.put(sort, 59, v), 1);
            C.due("lowest bits", x.element(sort, 59), lowest[sort]);
            C.due("put 0", x.put(sort, 59, 0), 1);
            C.due("0", x.element(sort, 59), 0);
            C.due("place 60", x.put(sort, 60, 1), -13);
            C.due("place -1", x.put(sort, -1, 1), -13);
            C.due("place 60", x.element(sort, 60), NONE);
            C.due("place -1", x.element(sort, -1), NONE);
            C.due("the next shelf is as it was", x.element(sort, 0), 0);
        }
        x.put(4, 0, 1L << 40);
        C.due("a boolean is not cut", x.element(4, 0), 1);
        x.put(0, 0, 5);
        C.due("a new row", x.row(0, 0, 0), 1);
        C.due("has no place", x.put(0, 0, 1), -13);
        C.due("a row again", x.row(0, 0, 60), 1);
        C.due("0 again", x.element(0, 0), 0);
        C.due("put on shelf 6", x.put(6, 0, 1), -1);
        C.due("element of shelf 6", x.element(6, 0), NONE);
        C.due("keep", x.keep(0, 0), 1);
        C.due("put on a plan", x.put(0, 0, 1), -12);
        C.due("element of a plan", x.element(0, 0), NONE);
        C.due("keep none", x.keep(0, 1), -1);
        C.due("keep -2", x.keep(0, -2), -1);
        C.due("keep on 6", x.keep(6, 0), -1);
        C.due("keep on -1", x.keep(-1, -1), -1);
        C.due("the plan is there", x.taken(0, 3), 3);
        C.due("keep nothing", x.keep(0, -1), 1);
        C.due("nothing is there", x.put(0, 0, 1), -11);
    }

    private static void shifts() {
        FitOnDay x = new FitOnDay();
        x.body(0);
        x.row(0, 2, 6);
        x.row(1, 2, 4);
        x.row(2, 3, 6);
        x.keep(3, 0);
        for (int i = 0; i < 6; i++) x.put(0, i, i + 1);
        C.due("shelf 6", x.shift(6, 0, 0, 0, 1), -1);
        C.due("other -1", x.shift(0, 0, -1, 0, 1), -1);
        C.due("nothing", x.shift(4, 0, 0, 0, 1), -11);
        C.due("nothing there", x.shift(0, 0, 4, 0, 1), -11);
        C.due("-11 ahead of -12", x.shift(3, 0, 4, 0, 1), -11);
        C.due("a plan", x.shift(3, 0, 0, 0, 1), -12);
        C.due("to a plan", x.shift(0, 0, 3, 0, 1), -12);
        C.due("two plans", x.shift(3, 0, 3, 0, 0), -12);
        C.due("unlike sorts", x.shift(0, 0, 2, 0, 1), -12);
        C.due("-12 ahead of -13", x.shift(0, 9, 2, 0, 1), -12);
        C.due("i -1", x.shift(0, -1, 1, 0, 1), -13);
        C.due("j -1", x.shift(0, 0, 1, -1, 1), -13);
        C.due("n -1", x.shift(0, 0, 1, 0, -1), -13);
        C.due("beyond the one", x.shift(1, 2, 0, 0, 3), -13);
        C.due("beyond the other", x.shift(0, 0, 1, 2, 3), -13);
        C.due("huge", x.shift(0, 1, 1, 1, Integer.MAX_VALUE), -13);
        C.due("0 at the ends", x.shift(0, 6, 1, 4, 0), 0);
        C.due("0 behind the end", x.shift(0, 7, 1, 4, 0), -13);
        C.due("0 behind the other's", x.shift(0, 6, 1, 5, 0), -13);
        C.due("three", x.shift(0, 2, 1, 1, 3), 3);
        holds(x, 1, 0, 3, 4, 5);
        C.due("up, as before", x.shift(0, 0, 0, 2, 4), 4);
        holds(x, 0, 1, 2, 1, 2, 3, 4);
        C.due("down, as before", x.shift(0, 1, 0, 0, 5), 5);
        holds(x, 0, 2, 1, 2, 3, 4, 4);
        C.due("onto itself", x.shift(0, 0, 0, 0, 6), 6);
        holds(x, 0, 2, 1, 2, 3, 4, 4);
    }

    private static void holds(FitOnDay x, int shelf, long... due) {
        for (int i = 0; i < due.length; i++) C.due("element " + i, x.element(shelf, i), due[i]);
        C.due("no more", x.element(shelf, due.length), NONE);
    }

    private static void taken() {
        FitOnDay x = new FitOnDay();
        int[][] above = {{0}, {1, 0}, {2, 0}, {3, 2, 0}, {4, 0}, {5, 1, 0}, {6, 0}, {7, 3, 2, 0}};
        for (int kind = 0; kind < 8; kind++) {
            x.body(kind);
            x.keep(5, kind);
            for (int k = 0; k < 8; k++) {
                boolean is = false;
                for (int a : above[kind]) is |= a == k;
                C.due("kind " + kind + " for " + k, x.taken(5, k), is ? kind : -12);
            }
        }
        C.due("k 8", x.taken(5, 8), -1);
        C.due("k -1", x.taken(5, -1), -1);
        C.due("shelf 6", x.taken(6, 0), -1);
        C.due("shelf -1", x.taken(-1, 0), -1);
        C.due("nothing", x.taken(0, 0), -11);
        x.row(0, 0, 0);
        C.due("a row", x.taken(0, 0), -12);
    }

    private static void counts() {
        FitOnDay x = new FitOnDay();
        x.work(10100);
        x.work(10100);
        x.runner(1001, 1000);
        x.plan(0, 1);
        x.plan(1, 2);
        x.plan(2, 2);
        x.plan(1, 0);
        x.counts(3, 3);
        x.counts(4, 3);
        x.feed(3, 0);
        x.test(1, 1);
        x.body(2);
        x.body(7);
        x.body(7);
        x.act(2, 3, 1);
        int[] due = {3, 1, 2, 2, 3, 1, 4, 3, 11};
        for (int what = 0; what < 9; what++) C.due("count(" + what + ")", x.count(what), due[what]);
        C.due("count(9)", x.count(9), -1);
        C.due("count(-1)", x.count(-1), -1);
    }

    public static void main(String[] args) {
        acts();
        bodies();
        rows();
        shifts();
        taken();
        counts();
        C.end();
    }
}
