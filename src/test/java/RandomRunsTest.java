import java.util.Random;

/** Runs of calls by chance (the seed is told) on the program and on the oracle: the answers are the same. */
public final class RandomRunsTest {
    // with those of a text, those ahead and 120 behind them, no more than the 512 calls that an object is used for
    private static final int RUNS = 250, CALLS = 350;
    private static final String SIGNS = "tswjdlg0123456789|&<=>+-*/%!(;?) ";

    private final Random chance;
    private final FitOnDay x = new FitOnDay();
    private final Naive y = new Naive();
    private int calls = 0;

    private RandomRunsTest(long seed) { chance = new Random(seed); }

    private int any(int a, int b) { return a + chance.nextInt(b - a + 1); }

    /** Mostly what is asked for, now and then something near or far that is not. */
    private int some(int a, int b) {
        switch (any(0, 24)) {
            case 0: return a - 1;
            case 1: return b + 1;
            case 2: return chance.nextInt();
            case 3: return a;
            case 4: return b;
            default: return any(a, b);
        }
    }

    private int rd() { return chance.nextInt(30) == 0 ? chance.nextInt() : 1000 * some(0, 4) + some(0, 119); }

    private int fromTo() { return 1000 * any(0, 60) + some(20, 119); }

    private String part(int deep) {
        if (deep == 0 || any(0, 2) == 0) return any(0, 2) == 0 ? "" + any(0, 999) : "" + "tswjdlg".charAt(any(0, 6));
        switch (any(0, 7)) {
            case 0: return "!" + part(deep - 1);
            case 1: return "-" + part(deep - 1);
            case 2: return "(" + part(deep - 1) + ")";
            default: return part(deep - 1) + "|&<=>+-*/%".charAt(any(0, 9)) + part(deep - 1);
        }
    }

    private String someText() {
        StringBuilder text = new StringBuilder();
        int lines = any(1, 3);
        for (int i = 0; i < lines; i++) {
            if (i > 0) text.append(';');
            if (any(0, 1) == 0) text.append(part(2)).append('?');
            text.append(any(0, 2) == 0 ? "" + any(0, 40) : part(3));
        }
        if (any(0, 3) == 0) text.setCharAt(any(0, text.length() - 1), SIGNS.charAt(any(0, SIGNS.length() - 1)));
        if (any(0, 3) == 0) text.setLength(any(0, text.length()));
        return text.toString();
    }

    private void textOnce(Check c) {
        String text = someText();
        for (int i = 0; i < text.length(); i += 4) {
            int n = Math.min(4, text.length() - i);
            int v = 0;
            for (int k = 0; k < n; k++) v |= text.charAt(i + k) << 8 * k;
            c.due("feed", x.feed(n, v), y.feed(n, v));
            calls++;
        }
        int which = some(1, 3);
        c.due("text(" + which + ") of " + text, x.text(which), y.text(which));
    }

    private void callOnce(Check c) {
        int a, b, d, e, f;
        long v;
        switch (any(0, 44)) {
            case 0: c.due("work", x.work(a = some(0, 99999)), y.work(a)); break;
            case 1: c.due("mend", x.mend(a = some(1, 3), b = some(0, 1), d = some(0, 99)), y.mend(a, b, d)); break;
            case 2: c.due("runner", x.runner(a = 1000 * some(1, 400) + some(1, 99), b = some(500, 1500)), y.runner(a, b)); break;
            case 3: case 4: c.due("plan", x.plan(a = some(0, 119), b = some(0, 5)), y.plan(a, b)); break;
            case 5: c.due("weeks", x.weeks(a = some(0, 119), b = some(0, 5), d = some(0, 10), e = some(1, 60)), y.weeks(a, b, d, e)); break;
            case 6: if (any(0, 3) == 0) c.due("shape", x.shape(a = 10 * some(0, 1) + some(0, 5), b = 10 * some(0, 7) + some(0, 7), d = fromTo()), y.shape(a, b, d)); break;
            case 7: c.due("of", x.of(a = some(0, 119)), y.of(a)); break;
            case 8: c.due("fit", x.fit(a = rd(), b = some(0, 2)), y.fit(a, b)); break;
            case 9: c.due("points", x.points(a = some(0, 4), b = some(0, 5), d = some(0, 119)), y.points(a, b, d)); break;
            case 10: case 11: c.due("counts", x.counts(a = some(0, 119), b = some(1, 9)), y.counts(a, b)); break;
            case 12: if (any(0, 4) == 0) c.due("forget", x.forget(), y.forget()); break;
            case 13: c.due("worth", x.worth(a = rd(), b = some(0, 5)), y.worth(a, b)); break;
            case 14: c.due("gained", x.gained(a = some(0, 4)), y.gained(a)); break;
            case 15: c.due("best", x.best(a = some(0, 4), b = some(0, 7), d = some(-1, 119)), y.best(a, b, d)); break;
            case 16: c.due("pays", x.pays(a = some(0, 4)), y.pays(a)); break;
            case 17: c.due("led", x.led(a = rd()), y.led(a)); break;
            case 18: c.due("taper", x.taper(a = rd(), b = some(0, 1)), y.taper(a, b)); break;
            case 19: c.due("feed", x.feed(a = some(1, 4), b = chance.nextInt()), y.feed(a, b)); break;
            case 20: case 21: textOnce(c); break;
            case 22: c.due("risk", x.risk(a = rd(), b = some(0, 2)), y.risk(a, b)); break;
            case 23: c.due("lost", x.lost(a = some(1, 60)), y.lost(a)); break;
            case 24: c.due("mean", x.mean(a = rd()), y.mean(a)); break;
            case 25: c.due("judge", x.judge(a = some(0, 4)), y.judge(a)); break;
            case 26: if (any(0, 3) == 0) c.due("feel", x.feel(a = some(0, 4), b = fromTo()), y.feel(a, b)); break;
            case 27: c.due("test", x.test(a = some(0, 119), b = some(-9999, 9999)), y.test(a, b)); break;
            case 28: c.due("who", x.who(a = some(-1, 4)), y.who(a)); break;
            case 29: c.due("group", x.group(a = some(0, 119), b = some(0, 2)), y.group(a, b)); break;
            case 30: c.due("alike", x.alike(a = 10 * some(0, 4) + some(0, 4)), y.alike(a)); break;
            case 31: c.due("cold", x.cold(a = rd(), b = some(1, 30)), y.cold(a, b)); break;
            case 32: c.due("lines", x.lines(a = some(0, 4), b = 100 * some(0, 5) + any(0, 99), d = some(0, 1)), y.lines(a, b, d)); break;
            case 33: c.due("years", x.years(a = some(0, 4), b = chance.nextInt(), d = 10 * some(1, 50) + some(0, 1)), y.years(a, b, d)); break;
            case 34: c.due("undo", x.undo(), y.undo()); break;
            case 35: c.due("redo", x.redo(), y.redo()); break;
            case 36: c.due("body", x.body(a = some(0, 7)), y.body(a)); break;
            case 37: c.due("act", x.act(a = some(0, 9), b = some(0, 3), d = some(-50, 50)), y.act(a, b, d)); break;
            case 38: c.due("trace", x.trace(a = some(0, 10)), y.trace(a)); break;
            case 39: c.due("keep", x.keep(a = some(0, 5), b = some(-1, 9)), y.keep(a, b)); break;
            case 40: c.due("row", x.row(a = some(0, 5), b = any(0, 2) == 0 ? 0 : some(0, 4), d = some(0, 60)), y.row(a, b, d)); break;
            case 41: c.due("put", x.put(a = some(0, 5), b = some(0, 20), v = any(0, 1) == 0 ? any(0, 6) : chance.nextLong()), y.put(a, b, v)); break;
            case 42: c.due("element", x.element(a = some(0, 5), b = some(0, 20)), y.element(a, b)); break;
            case 43: c.due("shift", x.shift(a = some(0, 5), b = some(0, 20), d = some(0, 5), e = some(0, 20), f = some(0, 20)), y.shift(a, b, d, e, f)); break;
            default: c.due("taken", x.taken(a = some(0, 5), b = some(0, 7)), y.taken(a, b));
        }
    }

    private void wholeRun(long seed, Check c) {
        int wrong = c.wrong();
        for (int i = 0; i < 3; i++) {
            int w = 1000 * any(5, 99) + any(50, 999);
            c.due("work", x.work(w), y.work(w));
            int fs = 1000 * any(60, 300) + any(5, 40), gift = any(700, 1300);
            c.due("runner", x.runner(fs, gift), y.runner(fs, gift));
        }
        int ab = any(0, 77);
        c.due("shape", x.shape(11, ab, 100), y.shape(11, ab, 100));
        c.due("counts", x.counts(104, 3), y.counts(104, 3));
        while (calls < CALLS - 1) {
            callOnce(c);
            calls++;
            if (any(0, 3) != 0) continue;
            int what = any(-1, 9);
            c.due("count", x.count(what), y.count(what));
            calls++;
        }
        for (int day = 0; day < 120; day++) c.due("of", x.of(day), y.of(day));
        if (c.wrong() > wrong) System.out.println("that was the run of seed " + seed);
    }

    public static void main(String[] args) {
        Check c = new Check();
        for (long seed = 1; seed <= RUNS; seed++) new RandomRunsTest(seed).wholeRun(seed, c);
        c.end();
    }
}
