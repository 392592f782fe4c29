import java.util.ArrayList;
import java.util.List;
import java.util.function.ToLongFunction;

/** What is refused changes nothing: behind each refused call an object answers all questions as one that was never asked. */
public final class RefusalsTest {
    private static final int BAD = FitOnDay.BAD, NOT = FitOnDay.NOT, FULL = FitOnDay.FULL, STATE = FitOnDay.STATE, VOID = FitOnDay.VOID;
    private static final Check C = new Check();

    /** An object with as much of everything as can be: some 190 calls. */
    static FitOnDay full() {
        FitOnDay x = new FitOnDay();
        for (int i = 0; i < 5; i++) {
            x.work(18000 * i + 501 * i + 7);
            x.runner(1000 * (100 + 150 * i) + 1 + 200 * i, 500 + 250 * i);
            x.test(25 * i, 100 * i);
            x.test(10 * i, 90 * i);
            x.row(i, i, 60);
            x.put(i, 59, i + 1);
        }
        x.shape(11, 33, 119);
        for (int i = 0; i < 4; i++) x.counts(39 * i, 9 - i);
        for (int which = 1; which <= 3; which++) Check.take(x, which, "t>s?w*j;d%l+g/w");
        for (int i = 0; i < 50; i++) x.body(i % 8);
        x.keep(5, 7);
        for (int i = 0; i < 5; i++) x.plan(3 + i, 2);
        x.mend(1, 0, 50);
        x.mend(1, 1, 51);
        x.undo();
        x.undo();
        x.lost(21);
        for (int i = 0; i < 29; i++) x.feed(4, '1' | '+' << 8 | '2' << 16 | '*' << 24);
        x.feed(1, '9');
        x.act(7, 3, 10);
        return x;
    }

    /** A few works and nothing of what else may come, but for a row of bytes on shelf 1 and a plan on shelf 2. */
    private static FitOnDay bare() {
        FitOnDay x = new FitOnDay();
        x.work(10203);
        x.row(1, 0, 4);
        x.body(1);
        x.keep(2, 0);
        x.act(0, 1, 10);
        return x;
    }

    private static FitOnDay lonely() {
        FitOnDay x = bare();
        x.runner(500500, 1000);
        x.plan(3, 1);
        return x;
    }

    /** Some 300 answers; the last of them change what is asked for. */
    private static List<Long> asked(FitOnDay x) {
        List<Long> answers = new ArrayList<>();
        for (int what = 0; what < 9; what++) answers.add((long) x.count(what));
        for (int i = 0; i < 12; i++) answers.add((long) x.trace(i));
        for (int day = 0; day < 120; day += 1 + day % 3) answers.add((long) x.of(day));
        for (int r = 0; r < 5; r++) {
            for (int what = 0; what < 3; what++) answers.add((long) x.risk(1000 * r + 117, what));
            answers.add((long) x.fit(1000 * r + 117, 1));
            answers.add((long) x.fit(1000 * r + 117, 2));
            answers.add((long) x.mean(1000 * r + 117));
            answers.add((long) x.gained(r));
            answers.add((long) x.who(r));
            answers.add((long) x.judge(r));
        }
        for (int w = 0; w < 6; w++) answers.add((long) x.points(2, w, 1));
        for (int shelf = 0; shelf < 6; shelf++) {
            for (int i = 0; i < 60; i += 59) answers.add(x.element(shelf, i));
            answers.add((long) x.taken(shelf, 0));
            answers.add((long) x.put(shelf, 60, 0));
        }
        answers.add((long) x.lost(1));
        int times = x.count(6);
        for (int i = 0; i <= times; i++) answers.add((long) x.undo());
        answers.add((long) x.count(2));
        for (int i = 0; i <= 40; i++) {
            long may = x.redo();
            answers.add(may);
            if (may <= 0) break;
        }
        answers.add((long) x.points(0, 1, 0));
        answers.add((long) x.points(4, 1, 0));
        answers.add((long) x.text(1));
        answers.add((long) x.risk(0, 0));
        answers.add((long) x.feel(0, 119));
        answers.add((long) x.count(2));
        answers.add((long) x.act(0, 3, 10));
        answers.add((long) x.body(0));
        answers.add((long) x.forget());
        return answers;
    }

    private static FitOnDay made(int which) {
        return which == 0 ? full() : which == 1 ? bare() : lonely();
    }

    /** A call of one of the objects made that is refused so. */
    private static void refused(int which, String call, long answer, ToLongFunction<FitOnDay> how) {
        FitOnDay x = made(which);
        C.due(call, how.applyAsLong(x), answer);
        List<Long> due = asked(made(which));
        List<Long> is = asked(x);
        C.due(call + ": as many answers behind it", is.size(), due.size());
        for (int i = 0; i < due.size(); i++) C.due(call + ": answer " + i + " behind it", is.get(i), due.get(i));
    }

    private static void worksAndPlan() {
        C.says(2, "What is answered so changes nothing.");
        refused(0, "work(-1)", BAD, x -> x.work(-1));
        refused(1, "work(100000)", BAD, x -> x.work(100000));
        refused(0, "a sixth work", FULL, x -> x.work(5));
        C.says(3, "What is answered so changes nothing.");
        refused(0, "mend rest", BAD, x -> x.mend(0, 0, 5));
        refused(0, "mend what 2", BAD, x -> x.mend(1, 2, 5));
        refused(0, "mend to 100", BAD, x -> x.mend(1, 0, 100));
        refused(0, "mend to -1", BAD, x -> x.mend(1, 1, -1));
        refused(1, "mend no work", BAD, x -> x.mend(2, 0, 5));
        C.says(4, "What is answered so changes nothing.");
        refused(1, "runner(1000, 1000)", BAD, x -> x.runner(1000, 1000));
        refused(1, "runner(1001, 499)", BAD, x -> x.runner(1001, 499));
        refused(0, "a sixth runner", FULL, x -> x.runner(1001, 1000));
        C.says(5, "What is answered so changes nothing.");
        refused(0, "plan(4, 6)", BAD, x -> x.plan(4, 6));
        refused(0, "plan(4, -1)", BAD, x -> x.plan(4, -1));
        refused(0, "plan(120, 1)", BAD, x -> x.plan(120, 1));
        refused(0, "plan(-1, 1)", BAD, x -> x.plan(-1, 1));
        C.says(6, "What is answered so changes nothing.");
        refused(0, "weeks from shorts", -12, x -> x.weeks(0, 1, 0, 5));
        refused(0, "weeks from a plan", -12, x -> x.weeks(0, 5, 0, 5));
        refused(0, "61 weeks", BAD, x -> x.weeks(0, 0, 0, 61));
        refused(0, "weeks from shelf 6", BAD, x -> x.weeks(0, 6, 0, 5));
        refused(0, "weeks of day 120", BAD, x -> x.weeks(120, 0, 0, 5));
        C.says(7, "What is answered so changes nothing.");
        refused(0, "no such work", BAD, x -> x.shape(16, 11, 100));
        refused(0, "no such shape", BAD, x -> x.shape(21, 11, 100));
        refused(0, "a 8", BAD, x -> x.shape(11, 80, 100));
        refused(0, "a last day ahead of the first", BAD, x -> x.shape(11, 11, 5004));
        C.says(33, "What is answered so changes nothing.");
        refused(1, "undo", STATE, x -> x.undo());
        C.says(34, "What is answered so changes nothing.");
        refused(2, "redo", STATE, x -> x.redo());
    }

    private static void fitnessAndHurt() {
        C.says(11, "What is answered so changes nothing.");
        refused(0, "told", BAD, x -> x.counts(39, 5));
        refused(0, "a fifth", FULL, x -> x.counts(50, 5));
        refused(1, "weight 10", BAD, x -> x.counts(50, 10));
        refused(1, "day 120", BAD, x -> x.counts(120, 5));
        C.says(15, "What is answered so changes nothing.");
        refused(0, "best", VOID, x -> x.best(0, 8, -1));
        refused(0, "fit", VOID, x -> x.fit(5000, 0));
        refused(0, "points", VOID, x -> x.points(0, 6, 0));
        refused(0, "worth", VOID, x -> x.worth(0, 6));
        refused(0, "gained", VOID, x -> x.gained(5));
        refused(0, "pays", BAD, x -> x.pays(5));
        refused(2, "led", NOT, x -> x.led(0));
        refused(2, "taper", NOT, x -> x.taper(0, 0));
        refused(0, "taper", VOID, x -> x.taper(0, 2));
        C.says(19, "What is answered so changes nothing.");
        refused(0, "five bytes", BAD, x -> x.feed(5, 0));
        refused(0, "four bytes for three", FULL, x -> x.feed(4, 0));
        C.says(20, "What is answered so changes nothing.");
        refused(0, "text(0)", BAD, x -> x.text(0));
        refused(0, "text(4)", BAD, x -> x.text(4));
        C.says(21, "What is answered so changes nothing.");
        refused(0, "risk", BAD, x -> x.risk(0, 3));
        C.says(22, "What is answered so changes nothing.");
        refused(0, "lost(0)", BAD, x -> x.lost(0));
        refused(0, "lost(61)", BAD, x -> x.lost(61));
        C.says(23, "What is answered so changes nothing.");
        refused(0, "mean", VOID, x -> x.mean(120));
        C.says(24, "What is answered so changes nothing.");
        refused(0, "judge", BAD, x -> x.judge(5));
        refused(2, "judge", NOT, x -> x.judge(0));
        C.says(25, "What is answered so changes nothing.");
        refused(0, "no such runner", BAD, x -> x.feel(5, 100));
        refused(1, "nobody", BAD, x -> x.feel(0, 100));
        refused(0, "a last day ahead of the first", BAD, x -> x.feel(0, 100050));
        refused(0, "to day 120", BAD, x -> x.feel(0, 120));
    }

    private static void groupsAndYears() {
        C.says(26, "What is answered so changes nothing.");
        refused(0, "an eleventh", FULL, x -> x.test(0, 0));
        refused(2, "day 120", BAD, x -> x.test(120, 0));
        refused(2, "found 10000", BAD, x -> x.test(0, 10000));
        C.says(27, "What is answered so changes nothing.");
        refused(0, "who", BAD, x -> x.who(5));
        refused(2, "who", STATE, x -> x.who(0));
        C.says(28, "What is answered so changes nothing.");
        refused(0, "group", VOID, x -> x.group(120, 2));
        refused(1, "group", STATE, x -> x.group(0, 2));
        C.says(29, "What is answered so changes nothing.");
        refused(0, "alike", BAD, x -> x.alike(11));
        C.says(30, "What is answered so changes nothing.");
        refused(0, "cold", VOID, x -> x.cold(0, 31));
        C.says(31, "What is answered so changes nothing.");
        refused(0, "lines", VOID, x -> x.lines(0, 600, 0));
        refused(2, "lines", NOT, x -> x.lines(0, 100, 0));
        C.says(32, "What is answered so changes nothing.");
        refused(0, "years", VOID, x -> x.years(0, 1, 9));
        refused(2, "years", NOT, x -> x.years(0, 1, 11));
    }

    private static void actsAndShelves() {
        C.says(35, "What is answered so changes nothing.");
        refused(0, "kind 8", BAD, x -> x.body(8));
        refused(0, "a fifty-first", FULL, x -> x.body(0));
        C.says(37, "What is answered so changes nothing.");
        refused(0, "trace", BAD, x -> x.trace(24));
        C.says(38, "What is answered so changes nothing.");
        refused(0, "no such body", BAD, x -> x.keep(0, 50));
        refused(0, "body -2", BAD, x -> x.keep(5, -2));
        refused(0, "shelf 6", BAD, x -> x.keep(6, -1));
        C.says(39, "What is answered so changes nothing.");
        refused(0, "sort 5", BAD, x -> x.row(0, 5, 5));
        refused(0, "61 elements", BAD, x -> x.row(0, 0, 61));
        refused(0, "a size below 0", -14, x -> x.row(0, 0, -1));
        refused(0, "a size below 0 for a plan", -14, x -> x.row(5, 0, -1));
        C.says(40, "What is answered so changes nothing.");
        refused(1, "nothing", -11, x -> x.put(0, 0, 1));
        refused(0, "a plan", -12, x -> x.put(5, 0, 1));
        refused(0, "no place", -13, x -> x.put(0, 60, 1));
        refused(1, "no place", -13, x -> x.put(1, 4, 1));
        C.says(41, "What is answered so changes nothing.");
        refused(0, "no place", Long.MIN_VALUE, x -> x.element(0, 60));
        C.says(42, "What is answered so changes nothing.");
        refused(0, "shelf 6", BAD, x -> x.shift(0, 59, 6, 0, 1));
        refused(1, "nothing", -11, x -> x.shift(1, 0, 0, 0, 1));
        refused(0, "unlike sorts", -12, x -> x.shift(0, 59, 1, 0, 1));
        refused(0, "a plan", -12, x -> x.shift(0, 59, 5, 0, 1));
        refused(0, "behind the end", -13, x -> x.shift(0, 30, 0, 0, 31));
        refused(0, "to behind the end", -13, x -> x.shift(0, 0, 0, 30, 31));
        refused(0, "fewer than none", -13, x -> x.shift(0, 59, 0, 0, -1));
        C.says(43, "What is answered so changes nothing.");
        refused(0, "a row", -12, x -> x.taken(0, 0));
        refused(1, "nothing", -11, x -> x.taken(0, 0));
        C.says(44, "What is answered so changes nothing.");
        refused(0, "count", BAD, x -> x.count(9));
    }

    /** A call that could be refused in two ways is refused in the way that is named first. */
    private static void firstNamed() {
        FitOnDay x = full();
        C.says(2, "Answers, of several the one named first: BAD (-1): no such number, or it is not as said;");
        C.due("a sixth work, not as said", x.work(-1), -1);
        C.due("a sixth runner, not as said", x.runner(0, 1000), -1);
        C.due("a fifth counting day, told", x.counts(39, 1), -1);
        C.due("a fifth counting day, not as said", x.counts(50, 0), -1);
        C.due("five bytes on a full tape", x.feed(5, 0), -1);
        C.due("an eleventh test on no day", x.test(120, 0), -1);
        C.due("a fifty-first plan of no kind", x.body(8), -1);
        C.says(11, "FULL (-3);");
        C.due("a sixth work", x.work(0), -3);
        C.due("a sixth runner", x.runner(1001, 1000), -3);
        C.due("a fifth counting day", x.counts(50, 1), -3);
        C.due("four bytes on a full tape", x.feed(4, 0), -3);
        C.due("an eleventh test", x.test(119, 0), -3);
        C.due("a fifty-first plan", x.body(7), -3);
        FitOnDay y = lonely();
        C.says(18, "NOT (-2): as told;");
        C.due("led", y.led(0), -2);
        C.due("taper", y.taper(0, 0), -2);
        C.due("judge", y.judge(0), -2);
        C.due("lines", y.lines(0, 100, 0), -2);
        C.due("years", y.years(0, 1, 11), -2);
        C.says(18, "VOID is -2000000000.");
        C.due("taper without a counting day, what 2", y.taper(0, 2), -2000000000);
        C.due("lines without a counting day, what 2", y.lines(0, 100, 2), -2000000000);
        C.due("years without a counting day, what 2", y.years(0, 1, 12), -2000000000);
        C.due("group of no day, nobody there", bare().group(120, 0), -2000000000);
        C.says(27, "STATE (-5): as told;");
        C.due("undo", bare().undo(), -5);
        C.due("redo", y.redo(), -5);
        C.due("no tests", y.who(0), -5);
        C.due("no tests, no such runner", y.who(1), -1);
        C.due("no runners", bare().who(-1), -5);
        C.due("no runners", bare().group(0, 0), -5);
    }

    private static void shelvesRefuse() {
        FitOnDay x = bare();
        C.says(40, "-11 to -14.");
        C.due("put on no shelf", x.put(6, 0, 0), -1);
        C.due("a row of no sort below 0", x.row(0, 5, -1), -1);
        C.due("weeks of no day from a plan", x.weeks(120, 2, 0, 1), -1);
        C.due("shift to no shelf from nothing", x.shift(0, 0, 6, 0, 1), -1);
        C.due("nothing taken for no kind", x.taken(0, 8), -1);
        C.says(40, "The host's REFUSALS: -11 nothing is there where something is wanted;");
        C.due("put", x.put(0, -1, 0), -11);
        C.due("taken", x.taken(0, 7), -11);
        C.due("shift from nothing to a plan", x.shift(0, 0, 2, 0, 1), -11);
        C.due("shift from a plan to nothing", x.shift(2, 0, 0, 0, 1), -11);
        C.says(40, "-12 it is of another kind;");
        C.due("put", x.put(2, -1, 0), -12);
        C.due("taken", x.taken(1, 0), -12);
        C.due("taken for another kind", x.taken(2, 2), -12);
        C.due("weeks", x.weeks(0, 2, -1, 1), -12);
        C.due("shift", x.shift(1, -1, 2, -1, -1), -12);
        C.says(40, "-13 a place that is not there;");
        C.due("put", x.put(1, 4, 0), -13);
        C.due("shift", x.shift(1, 4, 1, 0, 1), -13);
        C.says(39, "-14 a size below 0.");
        C.due("row", x.row(1, 0, -1), -14);
    }

    /** Calls that ask, and are answered, change nothing either. */
    private static void asks(String call, ToLongFunction<FitOnDay> how) {
        FitOnDay x = full();
        C.holds(call + " is answered", how.applyAsLong(x) != VOID);
        List<Long> due = asked(full());
        List<Long> is = asked(x);
        for (int i = 0; i < due.size(); i++) C.due(call + ": answer " + i + " behind it", is.get(i), due.get(i));
    }

    private static void inThought() {
        C.says(18, "in thought;");
        asks("taper", x -> x.taper(20, 0));
        asks("taper", x -> x.taper(1000, 1));
        C.says(30, "in thought: GAINED less.");
        asks("cold", x -> x.cold(3000, 30));
        C.says(15, "BEST WORKS");
        asks("best", x -> x.best(0, 3, -1));
        asks("lines", x -> x.lines(0, 205, 1));
        asks("group", x -> x.group(4, 2));
        C.says(23, "MEAN FIT");
        asks("mean", x -> x.mean(119));
        asks("years", x -> x.years(2, 5, 501));
        asks("risk", x -> x.risk(119, 2));
        asks("judge", x -> x.judge(1));
        C.says(34, "telling the same number is none)");
        asks("plan to what it is", x -> x.plan(3, x.of(3)));
        asks("mend to what it is", x -> x.mend(1, 0, 0));
        asks("lost to what it is", x -> x.lost(21));
    }

    public static void main(String[] args) {
        worksAndPlan();
        fitnessAndHurt();
        groupsAndYears();
        actsAndShelves();
        firstNamed();
        shelvesRefuse();
        inThought();
        C.end();
    }
}
