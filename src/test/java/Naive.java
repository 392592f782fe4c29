import java.util.ArrayList;
import java.util.List;

/** What the document says, in its plainest form and by other ways than the program: the oracle of RandomRunsTest. */
final class Naive {
    static final int BAD = -1, NOT = -2, FULL = -3, STATE = -5, VOID = -2000000000;

    private final List<int[]> works = new ArrayList<>(List.of(new int[] {0, 0, 0}));
    private final List<int[]> runners = new ArrayList<>();
    private int[] plan = new int[120];
    private final List<int[]> races = new ArrayList<>();
    private final List<int[]> done = new ArrayList<>();
    private final List<int[]> undone = new ArrayList<>();
    private final List<int[]> tests = new ArrayList<>();
    private final StringBuilder tape = new StringBuilder();
    private final String[] texts = new String[4];
    private int lost = 14;
    private final List<NaivePlans.Plan> bodies = new ArrayList<>();
    private final Object[] shelves = new Object[6];

    private static boolean in(long v, long a, long b) { return a <= v && v <= b; }
    private boolean isWork(int w) { return in(w, 0, works.size() - 1); }
    private boolean isRunner(int r) { return in(r, 0, runners.size() - 1); }
    private boolean isRd(int rd) { return rd >= 0 && isRunner(rd / 1000) && in(rd % 1000, 0, 119); }

    int work(int tsl) {
        if (!in(tsl, 0, 99999)) return BAD;
        if (works.size() == 6) return FULL;
        works.add(new int[] {tsl / 1000, tsl % 1000 / 10, tsl % 10});
        return works.size() - 1;
    }

    int mend(int work, int what, int v) {
        if (!isWork(work) || work == 0 || !in(what, 0, 1) || !in(v, 0, 99)) return BAD;
        int was = works.get(work)[what];
        if (was != v) change(new int[] {1 + what, work, was, v});
        return was;
    }

    int runner(int fs, int gift) {
        int fast = Math.floorDiv(fs, 1000), slow = Math.floorMod(fs, 1000);
        if (!in(fast, 1, 999) || !in(slow, 1, 999) || !in(gift, 500, 1500)) return BAD;
        if (runners.size() == 5) return FULL;
        runners.add(new int[] {fast, slow, gift});
        return runners.size() - 1;
    }

    int plan(int day, int v) {
        if (!in(day, 0, 119) || !isWork(v)) return BAD;
        int was = plan[day];
        if (was != v) change(new int[] {0, day, was, v});
        return was;
    }

    private void change(int[] c) {
        undone.clear();
        done.add(c);
        if (done.size() > 40) done.remove(0);
        set(c, c[3]);
    }

    private void set(int[] c, int v) {
        if (c[0] == 0) plan[c[1]] = v;
        else works.get(c[1])[c[0] - 1] = v;
    }

    int undo() {
        if (done.isEmpty()) return STATE;
        int[] c = done.remove(done.size() - 1);
        undone.add(c);
        set(c, c[2]);
        return done.size();
    }

    int redo() {
        if (undone.isEmpty()) return STATE;
        int[] c = undone.remove(undone.size() - 1);
        done.add(c);
        set(c, c[3]);
        return undone.size();
    }

    private void noChanges() { done.clear(); undone.clear(); }

    int weeks(int day, int shelf, int i, int n) {
        if (!in(day, 0, 119) || !in(shelf, 0, 5) || !in(n, 1, 60)) return BAD;
        if (shelves[shelf] != null && !(shelves[shelf] instanceof byte[])) return -12;
        noChanges();
        byte[] row = (byte[]) shelves[shelf];
        int came = 0;
        try {
            for (; came < n; came++) {
                if (!isWork(row[i + came])) break;
                plan[day + came] = row[i + came];
            }
        } catch (NullPointerException | ArrayIndexOutOfBoundsException ends) {
            return came;
        }
        return came;
    }

    int shape(int sw, int ab, int ft) {
        if (sw < 0 || ab < 0 || ft < 0) return BAD;
        int kind = sw / 10, w = sw % 10, a = ab / 10, b = ab % 10, from = ft / 1000, to = ft % 1000;
        if (kind > 1 || !isWork(w) || a > 7 || b > 7 || to > 119 || from > to) return BAD;
        noChanges();
        plan = new int[120];
        int many = 0;
        for (int week = 0; from + 7 * week <= to; week++) {
            int works = kind == 0 ? a : Math.min(7, a + week * b / 4);
            for (int k = 0; k < works && from + 7 * week + k <= to; k++) {
                plan[from + 7 * week + k] = w;
                many += w == 0 ? 0 : 1;
            }
        }
        return many;
    }

    int of(int day) { return in(day, 0, 119) ? plan[day] : BAD; }

    private static int left(int goes, int k) {
        int left = 1000;
        for (int i = 0; i < k; i++) left = left * (1000 - goes) / 1000;
        return left;
    }

    private int strong(int r, int w, int k) {
        return works.get(w)[1] * runners.get(r)[2] / 1000 * left(runners.get(r)[1], k);
    }

    private int tired(int r, int w, int k) { return works.get(w)[0] * left(runners.get(r)[0], k); }

    private int pointsOf(int r, int w, int k) { return strong(r, w, k) - tired(r, w, k); }

    private int fitBy(int[] days, int r, int day, int what) {
        int strong = 0, tired = 0;
        for (int d = day; d >= 0; d--) {
            strong += strong(r, days[d], day - d);
            tired += tired(r, days[d], day - d);
        }
        return what == 0 ? strong - tired : what == 1 ? strong : tired;
    }

    int fit(int rd, int what) {
        if (!isRd(rd) || !in(what, 0, 2)) return VOID;
        return fitBy(plan, rd / 1000, rd % 1000, what);
    }

    int points(int r, int w, int k) {
        if (!isRunner(r) || !isWork(w) || !in(k, 0, 119)) return VOID;
        return pointsOf(r, w, k);
    }

    int counts(int day, int weight) {
        if (!in(day, 0, 119) || !in(weight, 1, 9)) return BAD;
        for (int[] c : races) if (c[0] == day) return BAD;
        if (races.size() == 4) return FULL;
        races.add(new int[] {day, weight});
        return races.size();
    }

    int forget() {
        int n = races.size();
        races.clear();
        return n;
    }

    private int worthOf(int r, int w, int day) {
        int sum = 0;
        for (int[] c : races) if (c[0] >= day) sum += c[1] * pointsOf(r, w, c[0] - day);
        return sum;
    }

    private int gainedBy(int[] days, int r) {
        int sum = 0;
        for (int d = 0; d < 120; d++) sum += worthOf(r, days[d], d);
        return sum;
    }

    int worth(int rd, int w) { return isRd(rd) && isWork(w) ? worthOf(rd / 1000, w, rd % 1000) : VOID; }

    int gained(int r) { return isRunner(r) ? gainedBy(plan, r) : VOID; }

    private int bestOf(int r, int day) {
        int best = 0;
        for (int w = 0; w < works.size(); w++) if (worthOf(r, w, day) > worthOf(r, best, day)) best = w;
        return best;
    }

    private int[] bestPlan(int r, int m) {
        int[] days = new int[120];
        for (int week = 0; week < 18; week++) {
            List<Integer> inOrder = new ArrayList<>();
            for (int d = 7 * week; d < Math.min(120, 7 * week + 7); d++) inOrder.add(d);
            inOrder.sort((x, y) -> worthOf(r, bestOf(r, y), y) - worthOf(r, bestOf(r, x), x));
            for (int i = 0; i < Math.min(m, inOrder.size()); i++) days[inOrder.get(i)] = bestOf(r, inOrder.get(i));
        }
        return days;
    }

    int best(int r, int m, int day) {
        if (!isRunner(r) || !in(m, 0, 7) || !in(day, -1, 119)) return VOID;
        int[] days = bestPlan(r, m);
        return day == -1 ? gainedBy(days, r) : days[day];
    }

    int pays(int r) {
        if (!isRunner(r)) return BAD;
        int least = 0;
        for (int d = 0; d < 120; d++) if (bestOf(r, d) != 0) least = d + 1;
        return least;
    }

    int led(int rd) {
        if (!isRd(rd)) return BAD;
        int r = rd / 1000, day = rd % 1000, led = NOT, most = 0;
        for (int d = 0; d <= day; d++) {
            int p = pointsOf(r, plan[d], day - d);
            if (p > most) { most = p; led = d; }
        }
        return led;
    }

    private int lastRace() {
        int last = -1;
        for (int[] c : races) last = Math.max(last, c[0]);
        return last;
    }

    int taper(int rd, int what) {
        if (!isRd(rd) || !in(what, 0, 1)) return VOID;
        if (races.isEmpty()) return NOT;
        int r = rd / 1000, from = rd % 1000, last = lastRace();
        int bestDay = from, most = Integer.MIN_VALUE;
        for (int start = from; start <= Math.max(from, last + 1); start++) {
            int[] days = plan.clone();
            for (int d = start; d <= last; d++) days[d] = 0;
            int gain = gainedBy(days, r) - gainedBy(plan, r);
            if (gain >= most) { most = gain; bestDay = start; }
        }
        return what == 0 ? bestDay : most;
    }

    int feed(int n, int v) {
        if (!in(n, 1, 4)) return BAD;
        if (tape.length() + n > 120) return FULL;
        for (int i = 0; i < n; i++) tape.append((char) (v >> 8 * i & 0xff));
        return tape.length();
    }

    int text(int which) {
        if (!in(which, 1, 3)) return BAD;
        String told = tape.toString();
        tape.setLength(0);
        int fault = NaiveText.fault(told);
        if (fault >= 0) return -100 - fault;
        texts[which] = told;
        return 1;
    }

    private int toNext(int day) {
        int least = 1000;
        for (int[] c : races) if (c[0] >= day) least = Math.min(least, c[0] - day);
        return least == 1000 ? 99 : least;
    }

    private int[] names(int r, int day) {
        int ahead = Math.min(7, day), sum = 0;
        for (int i = 1; i <= ahead; i++) sum += works.get(plan[day - i])[0];
        int[] w = works.get(plan[day]);
        int j = ahead == 0 ? 0 : w[0] - sum / ahead;
        return new int[] {fitBy(plan, r, day, 2) / 1000, fitBy(plan, r, day, 1) / 1000, plan[day], j, day, w[2], toNext(day)};
    }

    private int given(int which, int[] names) { return texts[which] == null ? 0 : NaiveText.given(texts[which], names); }

    private int riskOn(int r, int day) { return Math.max(0, Math.min(1000, given(1, names(r, day)))); }

    int risk(int rd, int what) {
        if (!isRd(rd) || !in(what, 0, 2)) return BAD;
        int r = rd / 1000, day = rd % 1000, ahead = 1000000;
        for (int d = 0; d < day; d++) ahead = ahead * (1000 - riskOn(r, d)) / 1000;
        int risk = riskOn(r, day);
        return what == 0 ? risk : what == 1 ? ahead * (1000 - risk) / 1000 / 1000 : ahead * risk / 1000 / 1000;
    }

    int lost(int v) {
        if (!in(v, 1, 60)) return BAD;
        int was = lost;
        lost = v;
        return was;
    }

    int mean(int rd) {
        if (!isRd(rd)) return VOID;
        int r = rd / 1000, day = rd % 1000;
        long sum = 0, left = 1000000;
        int ahead = 1000000;
        for (int h = 0; h < 120; h++) {
            int risk = riskOn(r, h), hurt = ahead * risk / 1000;
            ahead = ahead * (1000 - risk) / 1000;
            left -= hurt;
            if (hurt == 0) continue;
            int[] days = plan.clone();
            for (int d = h + 1; d <= h + lost && d < 120; d++) days[d] = 0;
            sum += (long) hurt * fitBy(days, r, day, 0);
        }
        return (int) ((sum + left * fitBy(plan, r, day, 0)) / 1000000);
    }

    int judge(int r) {
        if (!isRunner(r)) return BAD;
        for (int d = 0; d < 120; d++) if (given(2, names(r, d)) != 0) return d;
        return NOT;
    }

    int feel(int r, int ft) {
        if (!isRunner(r) || ft < 0 || ft / 1000 > 119 || ft % 1000 > 119 || ft / 1000 > ft % 1000) return BAD;
        noChanges();
        int many = 0;
        for (int d = ft / 1000; d <= ft % 1000; d++) {
            int[] days = plan.clone();
            days[d] = 0;
            int[] names = {fitBy(days, r, d, 2) / 1000, fitBy(days, r, d, 1) / 1000, d == 0 ? 0 : plan[d - 1], 0, d, 0, toNext(d)};
            int v = given(3, names);
            plan[d] = isWork(v) ? v : 0;
            if (plan[d] != 0) many++;
        }
        return many;
    }

    int test(int day, int found) {
        if (!in(day, 0, 119) || !in(found, -9999, 9999)) return BAD;
        if (tests.size() == 10) return FULL;
        tests.add(new int[] {day, found});
        return tests.size() - 1;
    }

    private int missed(int r) {
        int sum = 0;
        for (int[] t : tests) sum += Math.abs(fitBy(plan, r, t[0], 0) / 1000 - t[1]);
        return sum;
    }

    int who(int runner) {
        if (runner != -1 && !isRunner(runner)) return BAD;
        if (tests.isEmpty() || runners.isEmpty()) return STATE;
        int who = 0, all = 0;
        for (int r = 0; r < runners.size(); r++) {
            all += missed(r);
            if (missed(r) < missed(who)) who = r;
        }
        if (runner == -1) return who;
        return all == 0 ? 1000 : 1000 - 1000 * missed(runner) / all;
    }

    private int leastGained(int[] days) {
        int least = Integer.MAX_VALUE;
        for (int r = 0; r < runners.size(); r++) least = Math.min(least, gainedBy(days, r));
        return least;
    }

    int group(int day, int what) {
        if (!in(day, 0, 119) || !in(what, 0, 2)) return VOID;
        if (runners.isEmpty()) return STATE;
        if (what == 2) {
            int best = 0, most = Integer.MIN_VALUE;
            for (int w = 0; w < works.size(); w++) {
                int[] days = plan.clone();
                days[day] = w;
                if (leastGained(days) > most) { most = leastGained(days); best = w; }
            }
            return best;
        }
        int who = 0;
        for (int r = 1; r < runners.size(); r++) if (fitBy(plan, r, day, 0) < fitBy(plan, who, day, 0)) who = r;
        return what == 1 ? who : fitBy(plan, who, day, 0);
    }

    int alike(int rs) {
        if (rs < 0 || !isRunner(rs / 10) || !isRunner(rs % 10) || rs / 10 == rs % 10) return BAD;
        int n = 0;
        for (int d = 0; d < 120; d++) if (fitBy(plan, rs / 10, d, 0) > fitBy(plan, rs % 10, d, 0)) n++;
        return n;
    }

    int cold(int rd, int n) {
        if (!isRd(rd) || !in(n, 1, 30)) return VOID;
        int[] days = plan.clone();
        for (int d = rd % 1000; d < Math.min(120, rd % 1000 + n); d++) days[d] = 0;
        return gainedBy(days, rd / 1000) - gainedBy(plan, rd / 1000);
    }

    int lines(int r, int we, int what) {
        if (!isRunner(r) || we < 0 || !isWork(we / 100) || !in(what, 0, 1)) return VOID;
        if (races.isEmpty()) return NOT;
        int[] days = new int[120];
        for (int d = 0; d <= lastRace() - we % 100; d++) if (d % 7 % 2 == 1) days[d] = we / 100;
        int gained = gainedBy(days, r);
        return what == 0 ? gained : gainedBy(bestPlan(r, 3), r) - gained;
    }

    int years(int r, int seed, int nw) {
        if (!isRunner(r) || nw < 0 || !in(nw / 10, 1, 50) || nw % 10 > 1) return VOID;
        if (nw % 10 == 1 && races.isEmpty()) return NOT;
        int[] risks = new int[120];
        for (int d = 0; d < 120; d++) risks[d] = riskOn(r, d);
        int z = seed, hurt = 0;
        long fits = 0;
        for (int year = 0; year < nw / 10; year++) {
            int[] days = plan.clone();
            for (int d = 0; d < 120; d++) {
                z = z * 1103515245 + 12345;
                if ((z >>> 8) % 1000 >= risks[d]) continue;
                hurt++;
                for (int k = 0; k < lost; k++) if (++d < 120) days[d] = 0;
            }
            if (!races.isEmpty()) fits += fitBy(days, r, lastRace(), 0);
        }
        return nw % 10 == 0 ? hurt : (int) (fits / (nw / 10));
    }

    int body(int kind) {
        if (!in(kind, 0, 7)) return BAD;
        if (bodies.size() == 50) return FULL;
        bodies.add(NaivePlans.of(kind, bodies.size()));
        return bodies.size() - 1;
    }

    private final List<Integer> ran = new ArrayList<>();

    int act(int body, int act, int x) {
        ran.clear();
        if (!in(body, 0, bodies.size() - 1) || !in(act, 0, 3)) return 0;
        NaivePlans.Plan p = bodies.get(body);
        p.trace.clear();
        int answer = act == 0 ? p.works(x) : act == 1 ? p.rests(x) : act == 2 ? p.counts(x) : p.tells(x);
        ran.addAll(p.trace);
        return answer;
    }

    int trace(int i) { return in(i, 0, Math.min(24, ran.size()) - 1) ? ran.get(i) : BAD; }

    int keep(int shelf, int body) {
        if (!in(shelf, 0, 5) || !in(body, -1, bodies.size() - 1)) return BAD;
        shelves[shelf] = body == -1 ? null : bodies.get(body);
        return 1;
    }

    int row(int shelf, int sort, int n) {
        if (!in(shelf, 0, 5) || !in(sort, 0, 4) || n > 60) return BAD;
        try {
            shelves[shelf] = sort == 0 ? new byte[n] : sort == 1 ? new short[n] : sort == 2 ? new int[n]
                    : sort == 3 ? new long[n] : new boolean[n];
        } catch (NegativeArraySizeException below) {
            return -14;
        }
        return 1;
    }

    int put(int shelf, int i, long v) {
        if (!in(shelf, 0, 5)) return BAD;
        Object o = shelves[shelf];
        if (o == null) return -11;
        try {
            if (o instanceof byte[] a) a[i] = (byte) v;
            else if (o instanceof short[] a) a[i] = (short) v;
            else if (o instanceof int[] a) a[i] = (int) v;
            else if (o instanceof long[] a) a[i] = v;
            else if (o instanceof boolean[] a) a[i] = v != 0;
            else return -12;
        } catch (ArrayIndexOutOfBoundsException e) {
            return -13;
        }
        return 1;
    }

    long element(int shelf, int i) {
        if (!in(shelf, 0, 5)) return Long.MIN_VALUE;
        Object o = shelves[shelf];
        try {
            if (o instanceof byte[] a) return a[i];
            if (o instanceof short[] a) return a[i];
            if (o instanceof int[] a) return a[i];
            if (o instanceof long[] a) return a[i];
            if (o instanceof boolean[] a) return a[i] ? 1 : 0;
        } catch (ArrayIndexOutOfBoundsException e) {
            return Long.MIN_VALUE;
        }
        return Long.MIN_VALUE;
    }

    int shift(int shelf, int i, int other, int j, int n) {
        if (!in(shelf, 0, 5) || !in(other, 0, 5)) return BAD;
        try {
            System.arraycopy(shelves[shelf], i, shelves[other], j, n);
        } catch (NullPointerException e) {
            return -11;
        } catch (ArrayStoreException e) {
            return -12;
        } catch (IndexOutOfBoundsException e) {
            return -13;
        }
        return n;
    }

    int taken(int shelf, int k) {
        if (!in(shelf, 0, 5) || !in(k, 0, 7)) return BAD;
        if (shelves[shelf] == null) return -11;
        return NaivePlans.CLASSES.get(k).isInstance(shelves[shelf]) ? ((NaivePlans.Plan) shelves[shelf]).kind() : -12;
    }

    int count(int what) {
        int many = 0;
        for (int w : plan) if (w != 0) many++;
        int[] all = {works.size(), runners.size(), many, races.size(), tape.length(), tests.size(), done.size(), bodies.size(), ran.size()};
        return in(what, 0, 8) ? all[what] : BAD;
    }
}
