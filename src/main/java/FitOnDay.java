public final class FitOnDay {
    public static final int BAD = -1, NOT = -2, FULL = -3, STATE = -5, VOID = -2000000000;

    private static final int NOTHING_THERE = -11, OTHER_KIND = -12, NO_PLACE = -13, SIZE_BELOW_0 = -14;
    // written out, as LANGUAGE.md lists functions of Long, but none of its constants
    private static final long LEAST_LONG = -9223372036854775808L;
    private static final int DAYS = 120, WEEK = 7, MOST_WORKS = 6, MOST_RUNNERS = 5, MOST_RACES = 4;
    private static final int MOST_TESTS = 10, TAPE_LENGTH = 120, MILLION = 1000000;

    private final Works works;
    private final Team team;
    private final Diary diary;
    private final Races races;
    private final Changes changes;
    private final Fitness fitness;
    private final Hurt hurt;
    private final Reader reader = new Reader();
    private final Acts acts = new Acts();
    private final Shelves shelves = new Shelves();
    private final int[] tape = new int[TAPE_LENGTH];
    private int taped = 0;
    private final int[] testDays = new int[MOST_TESTS];
    private final int[] testFound = new int[MOST_TESTS];
    private int tests = 0;
    // what each runner gains on all days but one
    private final int[] gainedElse = new int[MOST_RUNNERS];

    public FitOnDay() {
        // these know one another: made ahead of the object, so that nothing of it is handed out
        Works itsWorks = new Works();
        Team itsTeam = new Team();
        Diary itsDiary = new Diary();
        Races itsRaces = new Races();
        Fitness itsFitness = new Fitness(itsWorks, itsTeam, itsDiary, itsRaces);
        works = itsWorks;
        team = itsTeam;
        diary = itsDiary;
        races = itsRaces;
        fitness = itsFitness;
        changes = new Changes(itsWorks, itsDiary);
        hurt = new Hurt(itsFitness, itsWorks, itsDiary, itsRaces);
    }

    // ---- works, runners, the plan

    public int work(int tsl) {
        if (tsl < 0 || tsl > 99999) return BAD;
        return works.add(tsl / 1000, tsl / 10 % 100, tsl % 10);
    }

    public int mend(int work, int what, int v) {
        if (work == 0 || !works.has(work) || !within(what, 0, 1) || !within(v, 0, 99)) return BAD;
        return changes.tell(what == 0 ? Changes.TIRES : Changes.STRENGTHENS, work, v);
    }

    public int runner(int fs, int gift) {
        if (fs < 0 || !within(fs / 1000, 1, 999) || !within(fs % 1000, 1, 999)) return BAD;
        if (!within(gift, 500, 1500)) return BAD;
        return team.add(fs / 1000, fs % 1000, gift);
    }

    public int plan(int day, int v) {
        if (!isDay(day) || !works.has(v)) return BAD;
        return changes.tell(Changes.WORK_OF_DAY, day, v);
    }

    public int weeks(int day, int shelf, int i, int n) {
        if (!isDay(day) || !shelves.isShelf(shelf) || !within(n, 1, 60)) return BAD;
        if (shelves.holdsOtherThan(shelf, Shelves.BYTES)) return OTHER_KIND;
        changes.clear();
        int came = 0;
        while (came < n && day + came < DAYS) {
            // an i near the last int wraps to a place below 0, which no row has
            int place = i < 0 ? -1 : i + came;
            if (!shelves.isPlace(shelf, place)) break;
            long told = shelves.elementAt(shelf, place);
            if (told < 0 || !works.has((int) told)) break;
            diary.set(day + came, (int) told);
            came++;
        }
        return came;
    }

    public int shape(int sw, int ab, int ft) {
        if (!within(sw, 0, 19) || !works.has(sw % 10)) return BAD;
        if (ab < 0 || !within(ab / 10, 0, 7) || !within(ab % 10, 0, 7) || !isSpan(ft)) return BAD;
        changes.clear();
        diary.restAll();
        int from = ft / 1000;
        for (int day = from; day <= ft % 1000; day++) {
            int week = (day - from) / WEEK;
            int working = sw < 10 ? ab / 10 : Math.min(WEEK, ab / 10 + week * (ab % 10) / 4);
            if ((day - from) % WEEK < working) diary.set(day, sw % 10);
        }
        return diary.working(0, DAYS - 1);
    }

    public int of(int day) {
        return isDay(day) ? diary.at(day) : BAD;
    }

    // ---- fitness (rd: 1000 times the runner, and the day)

    public int fit(int rd, int what) {
        if (!isRunnersDay(rd) || !within(what, 0, 2)) return VOID;
        int strong = fitness.strongBy(rd / 1000, rd % 1000, rd % 1000);
        int tired = fitness.tiredBy(rd / 1000, rd % 1000, rd % 1000);
        if (what == 0) return strong - tired;
        return what == 1 ? strong : tired;
    }

    public int points(int runner, int work, int k) {
        if (!team.has(runner) || !works.has(work) || !isDay(k)) return VOID;
        return fitness.brought(runner, work, k);
    }

    public int counts(int day, int weight) {
        if (!isDay(day) || !within(weight, 1, 9) || races.isTold(day)) return BAD;
        return races.add(day, weight);
    }

    public int forget() {
        return races.clear();
    }

    public int worth(int rd, int work) {
        if (!isRunnersDay(rd) || !works.has(work)) return VOID;
        return fitness.valueOf(rd / 1000, work, rd % 1000);
    }

    public int gained(int runner) {
        return team.has(runner) ? fitness.gainedOf(runner) : VOID;
    }

    public int best(int runner, int m, int day) {
        if (!team.has(runner) || !within(m, 0, 7) || !(day == -1 || isDay(day))) return VOID;
        int all = fitness.chooseBest(runner, m);
        return day == -1 ? all : fitness.chosenOn(day);
    }

    public int pays(int runner) {
        if (!team.has(runner)) return BAD;
        int day = DAYS;
        while (day > 0 && fitness.bestOn(runner, day - 1) == 0) day--;
        return day;
    }

    public int led(int rd) {
        return isRunnersDay(rd) ? fitness.leadingDay(rd / 1000, rd % 1000) : BAD;
    }

    public int taper(int rd, int what) {
        if (!isRunnersDay(rd) || !within(what, 0, 1)) return VOID;
        int last = races.last();
        if (last < 0) return NOT;
        // of the day behind the last one, or of one told behind that, nothing is gained or lost
        int latest = Math.max(rd % 1000, last + 1);
        int gain = 0;
        int mostGain = 0;
        for (int day = last; day >= rd % 1000; day--) {
            gain -= fitness.valueOf(rd / 1000, diary.at(day), day);
            if (gain > mostGain) {
                mostGain = gain;
                latest = day;
            }
        }
        return what == 0 ? latest : mostGain;
    }

    // ---- hurt

    public int feed(int n, int v) {
        if (!within(n, 1, 4)) return BAD;
        if (taped + n > TAPE_LENGTH) return FULL;
        for (int i = 0; i < n; i++) {
            write(tape, taped, (v >>> (8 * i)) & 255);
            taped++;
        }
        return taped;
    }

    public int text(int which) {
        if (!within(which, 1, 3)) return BAD;
        int fault = reader.faultOf(tape, taped);
        taped = 0;
        if (fault >= 0) return -100 - fault;
        if (which == 1) hurt.law.become(reader);
        else if (which == 2) hurt.book.become(reader);
        else hurt.byFeel.become(reader);
        return 1;
    }

    public int risk(int rd, int what) {
        if (!isRunnersDay(rd) || !within(what, 0, 2)) return BAD;
        int day = rd % 1000;
        hurt.readRisks(rd / 1000, day);
        if (what == 0) return hurt.riskOn(day);
        return (what == 1 ? hurt.wholeAhead(day + 1) : hurt.firstOn(day)) / 1000;
    }

    public int lost(int v) {
        if (!within(v, 1, 60)) return BAD;
        int was = hurt.lostDays;
        hurt.lostDays = v;
        return was;
    }

    public int mean(int rd) {
        return isRunnersDay(rd) ? hurt.meanFit(rd / 1000, rd % 1000) : VOID;
    }

    public int judge(int runner) {
        return team.has(runner) ? hurt.firstTooMuch(runner) : BAD;
    }

    public int feel(int runner, int ft) {
        if (!team.has(runner) || !isSpan(ft)) return BAD;
        changes.clear();
        for (int day = ft / 1000; day <= ft % 1000; day++) {
            int felt = hurt.felt(runner, day);
            diary.set(day, works.has(felt) ? felt : 0);
        }
        return diary.working(ft / 1000, ft % 1000);
    }

    // ---- tests, groups, colds, lines

    public int test(int day, int found) {
        if (!isDay(day) || !within(found, -9999, 9999)) return BAD;
        if (tests >= MOST_TESTS) return FULL;
        write(testDays, tests, day);
        write(testFound, tests, found);
        tests++;
        return tests - 1;
    }

    public int who(int runner) {
        if (runner != -1 && !team.has(runner)) return BAD;
        if (tests == 0 || team.known == 0) return STATE;
        int nearest = 0;
        int least = missedBy(0);
        int together = least;
        for (int r = 1; r < team.known; r++) {
            int missed = missedBy(r);
            together += missed;
            if (missed < least) {
                least = missed;
                nearest = r;
            }
        }
        if (runner == -1) return nearest;
        return together <= 0 ? 1000 : 1000 - 1000 * missedBy(runner) / together;
    }

    public int group(int day, int what) {
        if (!isDay(day) || !within(what, 0, 2)) return VOID;
        if (team.known == 0) return STATE;
        if (what == 2) return fairestOn(day);
        int who = 0;
        int least = fitness.fitOn(0, day);
        for (int r = 1; r < team.known; r++) {
            int fit = fitness.fitOn(r, day);
            if (fit < least) {
                least = fit;
                who = r;
            }
        }
        return what == 0 ? least : who;
    }

    public int alike(int rs) {
        if (rs < 0 || !team.has(rs / 10) || !team.has(rs % 10) || rs / 10 == rs % 10) return BAD;
        int fitter = 0;
        for (int day = 0; day < DAYS; day++) {
            if (fitness.fitOn(rs / 10, day) > fitness.fitOn(rs % 10, day)) fitter++;
        }
        return fitter;
    }

    public int cold(int rd, int n) {
        if (!isRunnersDay(rd) || !within(n, 1, 30)) return VOID;
        int less = 0;
        for (int day = rd % 1000; day < DAYS && day < rd % 1000 + n; day++) {
            less -= fitness.valueOf(rd / 1000, diary.at(day), day);
        }
        return less;
    }

    public int lines(int runner, int we, int what) {
        if (!team.has(runner) || we < 0 || !works.has(we / 100) || !within(what, 0, 1)) return VOID;
        if (races.last() < 0) return NOT;
        int gained = 0;
        for (int day = 0; day <= races.last() - we % 100; day++) {
            int ofWeek = day % WEEK;
            if (ofWeek == 1 || ofWeek == 3 || ofWeek == 5) gained += fitness.valueOf(runner, we / 100, day);
        }
        return what == 0 ? gained : fitness.chooseBest(runner, 3) - gained;
    }

    public int years(int runner, int seed, int nw) {
        if (!team.has(runner) || nw < 0 || !within(nw / 10, 1, 50) || !within(nw % 10, 0, 1)) return VOID;
        if (nw % 10 == 1 && races.last() < 0) return NOT;
        return hurt.inYears(runner, seed, nw / 10, nw % 10 == 1);
    }

    public int undo() {
        return changes.stepBack();
    }

    public int redo() {
        return changes.stepAhead();
    }

    // ---- acts, shelves

    public int body(int kind) {
        return within(kind, 0, Acts.KINDS - 1) ? acts.add(kind) : BAD;
    }

    public int act(int body, int act, int x) {
        return acts.begin(body, act, x);
    }

    public int trace(int i) {
        return acts.ranAt(i);
    }

    public int keep(int shelf, int body) {
        if (!shelves.isShelf(shelf) || !(body == -1 || acts.has(body))) return BAD;
        shelves.hold(shelf, body == -1 ? Shelves.NOTHING : Shelves.PLAN, body);
        return 1;
    }

    public int row(int shelf, int sort, int n) {
        if (!shelves.isShelf(shelf) || !within(sort, Shelves.BYTES, Shelves.BOOLEANS) || n > Shelves.LENGTH) return BAD;
        if (n < 0) return SIZE_BELOW_0;
        shelves.hold(shelf, sort, n);
        return 1;
    }

    public int put(int shelf, int i, long v) {
        int refusal = shelves.refusalOf(shelf, i);
        if (refusal != 0) return refusal;
        shelves.setAt(shelf, i, v);
        return 1;
    }

    public long element(int shelf, int i) {
        return shelves.refusalOf(shelf, i) != 0 ? LEAST_LONG : shelves.elementAt(shelf, i);
    }

    public int shift(int shelf, int i, int other, int j, int n) {
        if (!shelves.isShelf(shelf) || !shelves.isShelf(other)) return BAD;
        if (shelves.isEmpty(shelf) || shelves.isEmpty(other)) return NOTHING_THERE;
        if (!shelves.areRowsAlike(shelf, other)) return OTHER_KIND;
        if (!shelves.isStretch(shelf, i, n) || !shelves.isStretch(other, j, n)) return NO_PLACE;
        shelves.move(shelf, i, other, j, n);
        return n;
    }

    public int taken(int shelf, int k) {
        if (!shelves.isShelf(shelf) || !within(k, 0, Acts.KINDS - 1)) return BAD;
        if (shelves.isEmpty(shelf)) return NOTHING_THERE;
        if (shelves.holdsOtherThan(shelf, Shelves.PLAN)) return OTHER_KIND;
        int kind = acts.kindOf(shelves.planOn(shelf));
        return acts.isUnder(kind, k) ? kind : OTHER_KIND;
    }

    public int count(int what) {
        switch (what) {
            case 0: return works.known;
            case 1: return team.known;
            case 2: return diary.working(0, DAYS - 1);
            case 3: return races.known;
            case 4: return taped;
            case 5: return tests;
            case 6: return changes.done;
            case 7: return acts.known;
            case 8: return acts.ran;
            default: return BAD;
        }
    }

    // ---- what several calls share

    private static boolean within(int v, int least, int most) {
        return v >= least && v <= most;
    }

    private static boolean isDay(int day) {
        return within(day, 0, DAYS - 1);
    }

    private static boolean isSpan(int ft) {
        return ft >= 0 && isDay(ft / 1000) && isDay(ft % 1000) && ft / 1000 <= ft % 1000;
    }

    // every place outside a row reads as 0, so that no index can make the machine throw
    private static int read(int[] row, int i) {
        return i >= 0 && i < row.length ? row[i] : 0;
    }

    private static void write(int[] row, int i, int v) {
        if (i >= 0 && i < row.length) row[i] = v;
    }

    private boolean isRunnersDay(int rd) {
        return rd >= 0 && team.has(rd / 1000) && isDay(rd % 1000);
    }

    private int missedBy(int runner) {
        int missed = 0;
        for (int i = 0; i < tests; i++) {
            missed += Math.abs(fitness.fitOn(runner, read(testDays, i)) / 1000 - read(testFound, i));
        }
        return missed;
    }

    private int fairestOn(int day) {
        for (int r = 0; r < team.known; r++) {
            write(gainedElse, r, fitness.gainedOf(r) - fitness.valueOf(r, diary.at(day), day));
        }
        int fairest = 0;
        int most = leastGained(day, 0);
        for (int w = 1; w < works.known; w++) {
            int least = leastGained(day, w);
            if (least > most) {
                most = least;
                fairest = w;
            }
        }
        return fairest;
    }

    private int leastGained(int day, int work) {
        int least = read(gainedElse, 0) + fitness.valueOf(0, work, day);
        for (int r = 1; r < team.known; r++) {
            least = Math.min(least, read(gainedElse, r) + fitness.valueOf(r, work, day));
        }
        return least;
    }

    private static final class Works {
        final int[] tires = new int[MOST_WORKS];
        final int[] strengthens = new int[MOST_WORKS];
        final int[] hours = new int[MOST_WORKS];
        int known = 1;

        int add(int tiring, int strengthening, int lasting) {
            if (known >= MOST_WORKS) return FULL;
            write(tires, known, tiring);
            write(strengthens, known, strengthening);
            write(hours, known, lasting);
            known++;
            return known - 1;
        }

        boolean has(int work) {
            return work >= 0 && work < known;
        }
    }

    private static final class Team {
        final int[] gifts = new int[MOST_RUNNERS];
        // what is left of 1000 is asked for on every day of every sum: kept, it is worked out once a runner
        final int[] tiredLeft = new int[MOST_RUNNERS * DAYS];
        final int[] strengthLeft = new int[MOST_RUNNERS * DAYS];
        int known = 0;

        int add(int fast, int slow, int gift) {
            if (known >= MOST_RUNNERS) return FULL;
            write(gifts, known, gift);
            fillLeft(tiredLeft, fast);
            fillLeft(strengthLeft, slow);
            known++;
            return known - 1;
        }

        private void fillLeft(int[] left, int goesBy) {
            int leftOf1000 = 1000;
            for (int k = 0; k < DAYS; k++) {
                write(left, known * DAYS + k, leftOf1000);
                leftOf1000 = leftOf1000 * (1000 - goesBy) / 1000;
            }
        }

        boolean has(int runner) {
            return runner >= 0 && runner < known;
        }
    }

    /** The plan. */
    private static final class Diary {
        private final int[] workOf = new int[DAYS];

        int at(int day) {
            return read(workOf, day);
        }

        void set(int day, int work) {
            write(workOf, day, work);
        }

        void restAll() {
            for (int day = 0; day < DAYS; day++) set(day, 0);
        }

        int working(int from, int to) {
            int working = 0;
            for (int day = from; day <= to; day++) {
                if (at(day) != 0) working++;
            }
            return working;
        }
    }

    /** The counting days. */
    private static final class Races {
        private final int[] days = new int[MOST_RACES];
        private final int[] weights = new int[MOST_RACES];
        int known = 0;

        int add(int day, int weight) {
            if (known >= MOST_RACES) return FULL;
            write(days, known, day);
            write(weights, known, weight);
            known++;
            return known;
        }

        int clear() {
            int were = known;
            known = 0;
            return were;
        }

        boolean isTold(int day) {
            for (int i = 0; i < known; i++) {
                if (dayOf(i) == day) return true;
            }
            return false;
        }

        int dayOf(int i) {
            return read(days, i);
        }

        int weightOf(int i) {
            return read(weights, i);
        }

        int last() {
            int last = -1;
            for (int i = 0; i < known; i++) last = Math.max(last, dayOf(i));
            return last;
        }

        int daysToNext(int day) {
            int next = DAYS;
            for (int i = 0; i < known; i++) {
                if (dayOf(i) >= day) next = Math.min(next, dayOf(i));
            }
            return next == DAYS ? 99 : next - day;
        }
    }

    /** Changes that can be undone, and behind them those that can be done again. */
    private static final class Changes {
        static final int WORK_OF_DAY = 0, TIRES = 1, STRENGTHENS = 2;
        private static final int KEPT = 40;

        private final Works works;
        private final Diary diary;
        private final int[] sorts = new int[KEPT];
        private final int[] places = new int[KEPT];
        private final int[] before = new int[KEPT];
        private final int[] after = new int[KEPT];
        int done = 0;
        private int undone = 0;

        Changes(Works works, Diary diary) {
            this.works = works;
            this.diary = diary;
        }

        void clear() {
            done = 0;
            undone = 0;
        }

        int tell(int sort, int place, int v) {
            int was = now(sort, place);
            if (was == v) return was;
            undone = 0;
            if (done >= KEPT) dropOldest();
            write(sorts, done, sort);
            write(places, done, place);
            write(before, done, was);
            write(after, done, v);
            done++;
            become(sort, place, v);
            return was;
        }

        int stepBack() {
            if (done <= 0) return STATE;
            done--;
            undone++;
            become(read(sorts, done), read(places, done), read(before, done));
            return done;
        }

        int stepAhead() {
            if (undone <= 0) return STATE;
            become(read(sorts, done), read(places, done), read(after, done));
            done++;
            undone--;
            return undone;
        }

        private int now(int sort, int place) {
            if (sort == WORK_OF_DAY) return diary.at(place);
            return read(sort == TIRES ? works.tires : works.strengthens, place);
        }

        private void become(int sort, int place, int v) {
            if (sort == WORK_OF_DAY) diary.set(place, v);
            else write(sort == TIRES ? works.tires : works.strengthens, place, v);
        }

        private void dropOldest() {
            for (int i = 1; i < KEPT; i++) {
                write(sorts, i - 1, read(sorts, i));
                write(places, i - 1, read(places, i));
                write(before, i - 1, read(before, i));
                write(after, i - 1, read(after, i));
            }
            done = KEPT - 1;
        }
    }

    /** How fit the plan makes a runner, and what works are worth. */
    private static final class Fitness {
        private final Works works;
        private final Team team;
        private final Diary diary;
        private final Races races;
        private final int[] bestWorks = new int[DAYS];
        private final int[] bestWorths = new int[DAYS];
        private final int[] chosen = new int[DAYS];

        Fitness(Works works, Team team, Diary diary, Races races) {
            this.works = works;
            this.team = team;
            this.diary = diary;
            this.races = races;
        }

        int brought(int runner, int work, int k) {
            return strengthOf(runner, work, k) - tirednessOf(runner, work, k);
        }

        private int strengthOf(int runner, int work, int k) {
            int strength = read(works.strengthens, work) * read(team.gifts, runner) / 1000;
            return strength * read(team.strengthLeft, runner * DAYS + k);
        }

        private int tirednessOf(int runner, int work, int k) {
            return read(works.tires, work) * read(team.tiredLeft, runner * DAYS + k);
        }

        /** What the works of the days to the one called to make of it on a day, that one or a later one. */
        int strongBy(int runner, int to, int day) {
            int strong = 0;
            for (int d = 0; d <= to; d++) {
                int work = diary.at(d);
                if (work != 0) strong += strengthOf(runner, work, day - d);
            }
            return strong;
        }

        int tiredBy(int runner, int to, int day) {
            int tired = 0;
            for (int d = 0; d <= to; d++) {
                int work = diary.at(d);
                if (work != 0) tired += tirednessOf(runner, work, day - d);
            }
            return tired;
        }

        int fitOn(int runner, int day) {
            return strongBy(runner, day, day) - tiredBy(runner, day, day);
        }

        int valueOf(int runner, int work, int day) {
            int value = 0;
            for (int i = 0; i < races.known; i++) {
                int k = races.dayOf(i) - day;
                if (k >= 0) value += races.weightOf(i) * brought(runner, work, k);
            }
            return value;
        }

        int gainedOf(int runner) {
            int all = 0;
            for (int day = 0; day < DAYS; day++) all += valueOf(runner, diary.at(day), day);
            return all;
        }

        int bestOn(int runner, int day) {
            int best = 0;
            int most = 0;
            for (int w = 1; w < works.known; w++) {
                int value = valueOf(runner, w, day);
                if (value > most) {
                    most = value;
                    best = w;
                }
            }
            return best;
        }

        /** What the best works with at most m a week gain; chosenOn tells them then. */
        int chooseBest(int runner, int m) {
            for (int day = 0; day < DAYS; day++) {
                int best = bestOn(runner, day);
                write(bestWorks, day, best);
                write(bestWorths, day, valueOf(runner, best, day));
                write(chosen, day, 0);
            }
            int all = 0;
            for (int first = 0; first < DAYS; first += WEEK) {
                for (int times = 0; times < m; times++) all += chooseOne(first);
            }
            return all;
        }

        private int chooseOne(int first) {
            int most = 0;
            int best = -1;
            for (int day = first; day < first + WEEK && day < DAYS; day++) {
                if (chosenOn(day) == 0 && read(bestWorths, day) > most) {
                    most = read(bestWorths, day);
                    best = day;
                }
            }
            if (best >= 0) write(chosen, best, read(bestWorks, best));
            return most;
        }

        int chosenOn(int day) {
            return read(chosen, day);
        }

        int leadingDay(int runner, int day) {
            int leading = NOT;
            int most = 0;
            for (int d = 0; d <= day; d++) {
                int brings = brought(runner, diary.at(d), day - d);
                if (brings > most) {
                    most = brings;
                    leading = d;
                }
            }
            return leading;
        }
    }

    /** Reads a tape in one go from left to right and leaves what it says as code, each sign behind its parts. */
    private static final class Reader {
        private static final int MOST_OPEN = 6, NEGATE = '~';

        // 0 and above: a number; below: minus a name or a sign
        private final int[] code = new int[2 * TAPE_LENGTH];
        private int coded;
        // signs whose right part is not read to its end, the latest last
        private final int[] waiting = new int[TAPE_LENGTH];
        private int waits;
        private int open;
        private int digits;
        private boolean wantsPart;
        private boolean asked;

        /** -1: none. */
        int faultOf(int[] tape, int length) {
            coded = 0;
            waits = 0;
            open = 0;
            digits = 0;
            wantsPart = true;
            asked = false;
            for (int i = 0; i < length; i++) {
                int sign = read(tape, i);
                if (!(wantsPart ? beginsPart(sign) : goesOnBehindPart(sign))) return i;
            }
            return !wantsPart && endsLine() ? -1 : length;
        }

        private boolean beginsPart(int sign) {
            if (isDigit(sign) || Text.nameOf(sign) >= 0) {
                digits = isDigit(sign) ? 1 : 0;
                emit(isDigit(sign) ? sign - '0' : -sign);
                wantsPart = false;
                return true;
            }
            if (sign != '(' && sign != '!' && sign != '-') return false;
            if (open >= MOST_OPEN) return false;
            open++;
            await(sign == '-' ? NEGATE : sign);
            return true;
        }

        private boolean goesOnBehindPart(int sign) {
            if (isDigit(sign)) return goesOnNumber(sign - '0');
            digits = 0;
            if (sign == ')') return closes();
            if (sign == ';') {
                wantsPart = true;
                return endsLine();
            }
            if (sign == '?') return asks();
            int level = levelOf(sign);
            if (level < 1 || level > 5) return false;
            if (level == 3) {
                emitWaiting(4);
                if (levelOf(latestWaiting()) == 3) return false;
            }
            emitWaiting(level);
            await(sign);
            wantsPart = true;
            return true;
        }

        private boolean goesOnNumber(int digit) {
            if (digits < 1 || digits > 3) return false;
            write(code, coded - 1, read(code, coded - 1) * 10 + digit);
            digits++;
            return true;
        }

        private boolean closes() {
            emitWaiting(1);
            if (latestWaiting() != '(') return false;
            waits--;
            open--;
            return true;
        }

        private boolean asks() {
            emitWaiting(1);
            if (asked || waits > 0) return false;
            asked = true;
            wantsPart = true;
            emit(-'?');
            return true;
        }

        private boolean endsLine() {
            emitWaiting(1);
            if (waits > 0) return false;
            asked = false;
            emit(-';');
            return true;
        }

        private void emit(int v) {
            write(code, coded, v);
            coded++;
        }

        private void await(int sign) {
            write(waiting, waits, sign);
            waits++;
        }

        private int latestWaiting() {
            return read(waiting, waits - 1);
        }

        private void emitWaiting(int fromLevel) {
            while (waits > 0 && levelOf(latestWaiting()) >= fromLevel) {
                if (levelOf(latestWaiting()) == 6) open--;
                emit(-latestWaiting());
                waits--;
            }
        }

        private static boolean isDigit(int sign) {
            return sign >= '0' && sign <= '9';
        }

        /** How tightly a sign binds; 0: it binds nothing. */
        private static int levelOf(int sign) {
            switch (sign) {
                case '|': return 1;
                case '&': return 2;
                case '<': case '=': case '>': return 3;
                case '+': case '-': return 4;
                case '*': case '/': case '%': return 5;
                case '!': case NEGATE: return 6;
                default: return 0;
            }
        }
    }

    /** A text that has been read; without one it gives 0. */
    private static final class Text {
        static final int NAMES = 7, T = 0, S = 1, W = 2, J = 3, D = 4, L = 5, G = 6;

        private final int[] code = new int[2 * TAPE_LENGTH];
        private int coded = 0;
        private final int[] stack = new int[TAPE_LENGTH];
        private int high;

        void become(Reader reader) {
            coded = reader.coded;
            for (int i = 0; i < coded; i++) write(code, i, read(reader.code, i));
        }

        /** Which name a sign is; -1: none. */
        static int nameOf(int sign) {
            switch (sign) {
                case 't': return T;
                case 's': return S;
                case 'w': return W;
                case 'j': return J;
                case 'd': return D;
                case 'l': return L;
                case 'g': return G;
                default: return -1;
            }
        }

        int given(int[] names) {
            high = 0;
            boolean skips = false;
            for (int i = 0; i < coded; i++) {
                int sign = -read(code, i);
                if (skips) skips = sign != ';';
                else if (sign == ';') return pop();
                else if (sign == '?') skips = pop() == 0;
                else step(sign, names);
            }
            return 0;
        }

        private void step(int sign, int[] names) {
            if (sign <= 0) push(-sign);
            else if (nameOf(sign) >= 0) push(read(names, nameOf(sign)));
            else if (sign == '!') push(pop() == 0 ? 1 : 0);
            else if (sign == Reader.NEGATE) push(-pop());
            else {
                int right = pop();
                push(joined(sign, pop(), right));
            }
        }

        private static int joined(int sign, int left, int right) {
            switch (sign) {
                case '|': return left != 0 || right != 0 ? 1 : 0;
                case '&': return left != 0 && right != 0 ? 1 : 0;
                case '<': return left < right ? 1 : 0;
                case '=': return left == right ? 1 : 0;
                case '>': return left > right ? 1 : 0;
                case '+': return left + right;
                case '-': return left - right;
                case '*': return left * right;
                case '/': return right == 0 ? 0 : left / right;
                case '%': return right == 0 ? 0 : left % right;
                default: return 0;
            }
        }

        private void push(int v) {
            write(stack, high, v);
            high++;
        }

        private int pop() {
            high--;
            return read(stack, high);
        }
    }

    /** What the texts say of the plan: risks, days with too much, what one does by feel. */
    private static final class Hurt {
        private final Fitness fitness;
        private final Works works;
        private final Diary diary;
        private final Races races;
        final Text law = new Text();
        final Text book = new Text();
        final Text byFeel = new Text();
        int lostDays = 14;
        private final int[] names = new int[Text.NAMES];
        private final int[] risks = new int[DAYS];
        // millionths: whole ahead of a day; one place more than days, for behind the last one
        private final int[] wholes = new int[DAYS + 1];
        // points that the plan's work of a day brings a later day
        private final int[] brings = new int[DAYS];

        Hurt(Fitness fitness, Works works, Diary diary, Races races) {
            this.fitness = fitness;
            this.works = works;
            this.diary = diary;
            this.races = races;
        }

        void readRisks(int runner, int last) {
            int whole = MILLION;
            for (int day = 0; day <= last; day++) {
                nameDay(runner, day);
                int risk = Math.max(0, Math.min(1000, law.given(names)));
                write(risks, day, risk);
                write(wholes, day, whole);
                whole = whole * (1000 - risk) / 1000;
            }
            write(wholes, last + 1, whole);
        }

        int riskOn(int day) {
            return read(risks, day);
        }

        int wholeAhead(int day) {
            return read(wholes, day);
        }

        int firstOn(int day) {
            return wholeAhead(day) * riskOn(day) / 1000;
        }

        private void nameDay(int runner, int day) {
            int work = diary.at(day);
            write(names, Text.T, fitness.tiredBy(runner, day, day) / 1000);
            write(names, Text.S, fitness.strongBy(runner, day, day) / 1000);
            write(names, Text.W, work);
            write(names, Text.J, jumpOn(day));
            write(names, Text.D, day);
            write(names, Text.L, read(works.hours, work));
            write(names, Text.G, races.daysToNext(day));
        }

        private void nameDayAhead(int runner, int day) {
            write(names, Text.T, fitness.tiredBy(runner, day - 1, day) / 1000);
            write(names, Text.S, fitness.strongBy(runner, day - 1, day) / 1000);
            write(names, Text.W, diary.at(day - 1));
            write(names, Text.J, 0);
            write(names, Text.D, day);
            write(names, Text.L, 0);
            write(names, Text.G, races.daysToNext(day));
        }

        private int jumpOn(int day) {
            int ahead = Math.min(day, 7);
            if (ahead <= 0) return 0;
            int tires = 0;
            for (int d = day - ahead; d < day; d++) tires += read(works.tires, diary.at(d));
            return read(works.tires, diary.at(day)) - tires / ahead;
        }

        private int readBrings(int runner, int last) {
            int all = 0;
            for (int day = 0; day < DAYS; day++) {
                int points = day <= last ? fitness.brought(runner, diary.at(day), last - day) : 0;
                write(brings, day, points);
                all += points;
            }
            return all;
        }

        int meanFit(int runner, int day) {
            readRisks(runner, day);
            int fit = readBrings(runner, day);
            long together = 0;
            int never = MILLION;
            for (int hurtOn = 0; hurtOn <= day; hurtOn++) {
                never -= firstOn(hurtOn);
                together += (long) firstOn(hurtOn) * (fit - lostBehind(hurtOn));
            }
            together += (long) never * fit;
            return (int) (together / MILLION);
        }

        private int lostBehind(int day) {
            int points = 0;
            for (int d = day + 1; d <= day + lostDays && d < DAYS; d++) points += read(brings, d);
            return points;
        }

        int firstTooMuch(int runner) {
            for (int day = 0; day < DAYS; day++) {
                nameDay(runner, day);
                if (book.given(names) != 0) return day;
            }
            return NOT;
        }

        int felt(int runner, int day) {
            nameDayAhead(runner, day);
            return byFeel.given(names);
        }

        /** How often one is hurt in n years, or how fit one is in their mean on the last counting day. */
        int inYears(int runner, int seed, int n, boolean asksFit) {
            readRisks(runner, DAYS - 1);
            readBrings(runner, races.last());
            int z = seed;
            int hurts = 0;
            long fits = 0;
            for (int year = 0; year < n; year++) {
                int resting = 0;
                for (int day = 0; day < DAYS; day++) {
                    if (resting > 0) {
                        resting--;
                        continue;
                    }
                    fits += read(brings, day);
                    z = z * 1103515245 + 12345;
                    if ((z >>> 8) % 1000 < riskOn(day)) {
                        hurts++;
                        resting = lostDays;
                    }
                }
            }
            if (!asksFit) return hurts;
            return n <= 0 ? 0 : (int) (fits / n);
        }
    }

    /** Plans of kinds, and the bodies of their acts, found from a kind upwards. */
    private static final class Acts {
        static final int KINDS = 8;
        private static final int MOST_PLANS = 50, MOST_TRACED = 24, DEEPEST = 40;
        private static final int WORKS = 0, RESTS = 1, COUNTS = 2, TELLS = 3;
        private static final int EVEN = 1, BUILD = 2, HARD = 3, BEST = 4, FEEL = 5, TOLD = 6, RESTED = 7;

        // 8 stands for the interfaces of the topmost kind
        private static final int[] ABOVE = {8, 0, 0, 2, 0, 1, 0, 3, -1};
        // for each kind the bodies of its own: works, rests, counts, tells; 0: none
        private static final int[] BODIES = {
            0, 10, 11, 0,
            20, 0, 0, 0,
            0, 30, 0, 0,
            41, 0, 40, 0,
            0, 0, 50, 0,
            0, 0, 0, 60,
            70, 0, 0, 0,
            0, 80, 0, 81,
            1, 0, 0, 2};

        private final int[] kinds = new int[MOST_PLANS];
        int known = 0;
        private final int[] traced = new int[MOST_TRACED];
        int ran = 0;
        private int number;
        private int ownKind;

        int add(int kind) {
            if (known >= MOST_PLANS) return FULL;
            write(kinds, known, kind);
            known++;
            return known - 1;
        }

        boolean has(int plan) {
            return plan >= 0 && plan < known;
        }

        int kindOf(int plan) {
            return read(kinds, plan);
        }

        boolean isUnder(int kind, int wanted) {
            int k = kind;
            for (int up = 0; up < KINDS && k >= 0; up++) {
                if (k == wanted) return true;
                k = above(k);
            }
            return false;
        }

        int begin(int plan, int sort, int x) {
            ran = 0;
            if (!has(plan) || !within(sort, WORKS, TELLS)) return 0;
            number = plan;
            ownKind = kindOf(plan);
            return ask(ownKind, sort, x, 0);
        }

        int ranAt(int i) {
            return i >= 0 && i < ran && i < MOST_TRACED ? read(traced, i) : BAD;
        }

        private static int above(int kind) {
            return kind >= 0 && kind < ABOVE.length ? ABOVE[kind] : -1;
        }

        private static int bodyOf(int kind, int sort) {
            int place = kind * 4 + sort;
            return place >= 0 && place < BODIES.length ? BODIES[place] : 0;
        }

        private int ask(int fromKind, int sort, int x, int depth) {
            if (depth > DEEPEST) return 0;
            int kind = fromKind;
            for (int up = 0; up <= KINDS && kind >= 0; up++) {
                int body = bodyOf(kind, sort);
                if (body != 0) {
                    write(traced, ran, body);
                    ran++;
                    return run(body, x, depth + 1);
                }
                kind = above(kind);
            }
            return 0;
        }

        private int own(int sort, int x, int depth) {
            return ask(ownKind, sort, x, depth);
        }

        private int run(int body, int x, int depth) {
            switch (body) {
                case 1: return x + number;
                case 2: return own(RESTS, x, depth) - own(COUNTS, 1, depth);
                case 10: return own(WORKS, x, depth) * 2;
                case 11: return x ^ number;
                case 20: return ask(above(EVEN), WORKS, x, depth) + 3;
                case 30: return -ask(above(BUILD), RESTS, x, depth);
                case 40: return ask(above(HARD), COUNTS, x, depth) * 3;
                case 41: return ask(above(HARD), WORKS, x + 1, depth);
                case 50: return ask(above(BEST), COUNTS, x, depth) - own(WORKS, 2, depth);
                case 60: return ask(above(FEEL), TELLS, x, depth) ^ 5;
                case 70: return ask(above(TOLD), WORKS, x, depth) * 2;
                case 80: return ask(above(RESTED), RESTS, x, depth) + own(COUNTS, 2, depth);
                case 81: return ask(above(RESTED), TELLS, x, depth) - 1;
                default: return 0;
            }
        }
    }

    private static final class Shelves {
        static final int LENGTH = 60, NOTHING = -2, PLAN = -1, BYTES = 0, SHORTS = 1, INTS = 2, LONGS = 3, BOOLEANS = 4;
        private static final int SHELVES = 6;

        // NOTHING, PLAN, or the sort of the row
        private final int[] holds = new int[SHELVES];
        // the plan's number, or the row's length
        private final int[] tells = new int[SHELVES];
        private final long[] elements = new long[SHELVES * LENGTH];
        private final long[] moved = new long[LENGTH];

        Shelves() {
            for (int shelf = 0; shelf < SHELVES; shelf++) holds[shelf] = NOTHING;
        }

        boolean isShelf(int shelf) {
            return shelf >= 0 && shelf < SHELVES;
        }

        boolean isEmpty(int shelf) {
            return read(holds, shelf) == NOTHING;
        }

        boolean holdsOtherThan(int shelf, int what) {
            return !isEmpty(shelf) && read(holds, shelf) != what;
        }

        int planOn(int shelf) {
            return read(tells, shelf);
        }

        /** tell: a plan's number, a row's length. */
        void hold(int shelf, int what, int tell) {
            write(holds, shelf, what);
            write(tells, shelf, tell);
            for (int i = 0; i < LENGTH; i++) setRaw(shelf * LENGTH + i, 0);
        }

        private boolean isRow(int shelf) {
            return isShelf(shelf) && read(holds, shelf) >= BYTES;
        }

        boolean isPlace(int shelf, int i) {
            return isRow(shelf) && i >= 0 && i < read(tells, shelf);
        }

        boolean isStretch(int shelf, int i, int n) {
            int length = read(tells, shelf);
            return i >= 0 && n >= 0 && i <= length && n <= length - i;
        }

        boolean areRowsAlike(int shelf, int other) {
            return isRow(shelf) && isRow(other) && read(holds, shelf) == read(holds, other);
        }

        /** 0: none. */
        int refusalOf(int shelf, int i) {
            if (!isShelf(shelf)) return BAD;
            if (isEmpty(shelf)) return NOTHING_THERE;
            if (!isRow(shelf)) return OTHER_KIND;
            return isPlace(shelf, i) ? 0 : NO_PLACE;
        }

        long elementAt(int shelf, int i) {
            int place = shelf * LENGTH + i;
            return place >= 0 && place < elements.length ? elements[place] : 0;
        }

        void setAt(int shelf, int i, long v) {
            setRaw(shelf * LENGTH + i, lowestBits(read(holds, shelf), v));
        }

        private void setRaw(int place, long v) {
            if (place >= 0 && place < elements.length) elements[place] = v;
        }

        private static long lowestBits(int sort, long v) {
            switch (sort) {
                case BYTES: return (byte) v;
                case SHORTS: return (short) v;
                case INTS: return (int) v;
                case BOOLEANS: return v != 0 ? 1 : 0;
                default: return v;
            }
        }

        void move(int shelf, int i, int other, int j, int n) {
            for (int k = 0; k < n && k < LENGTH; k++) moved[k] = elementAt(shelf, i + k);
            for (int k = 0; k < n && k < LENGTH; k++) setRaw(other * LENGTH + j + k, moved[k]);
        }
    }
}
