/** Promises 21 to 25: risks, lost days, mean fitness, what one judges and feels. */
public final class HurtTest {
    private static final int BAD = FitOnDay.BAD, NOT = FitOnDay.NOT, STATE = FitOnDay.STATE, VOID = FitOnDay.VOID;
    private static final int MIN = Integer.MIN_VALUE, MAX = Integer.MAX_VALUE;
    /** Told together, a runner that is not there or a day that is not there, of one runner. */
    private static final int[] NO_RUNNERS_DAYS = {-1, -1000, -1001, 120, 999, 1000, 1119, 2000, 120000, MIN, MAX};
    private static final Check C = new Check();

    /** Half of both goes by a day. Work 1: 10, 20, 3 hours; work 2: 30 and 10. */
    private static FitOnDay made() {
        FitOnDay x = new FitOnDay();
        x.runner(500500, 1000);
        x.work(10203);
        x.work(30100);
        return x;
    }

    private static void names() {
        FitOnDay x = made();
        x.plan(0, 2);
        for (int d = 1; d <= 8; d++) x.plan(d, 1);
        x.plan(9, 2);
        x.counts(9, 1);
        x.counts(30, 1);
        C.says(21, "NAMES: t TIRED / 1000 (cut) behind the DAY's WORK,");
        Check.take(x, 1, "t*10");
        C.due("t 0", x.risk(0, 0), 300);
        C.due("t 1", x.risk(1, 0), 250);
        C.due("t 2: 27500 and 5000, cut", x.risk(2, 0), 220);
        C.says(21, "s STRONG / 1000 (cut), w the WORK,");
        Check.take(x, 1, "s*10+w");
        C.due("s 0", x.risk(0, 0), 102);
        C.due("s 1", x.risk(1, 0), 251);
        C.due("s 2: 2500 and 30000, cut", x.risk(2, 0), 321);
        C.due("w 0 on a day of rest", x.risk(119, 0), 0);
        FitOnDay y = new FitOnDay();
        y.runner(1001, 1000);
        y.work(1010);
        y.plan(0, 1);
        Check.take(y, 1, "t*10+s");
        C.due("1000 are 1", y.risk(0, 0), 11);
        C.due("999 are 0, cut", y.risk(1, 0), 0);
        y.plan(1, 1);
        C.due("1999 are 1, cut", y.risk(1, 0), 11);
        C.says(21, "j how much TIRES of the DAY are above the mean (cut) of TIRES of up to 7 DAYS ahead (0: none ahead),");
        Check.take(x, 1, "j+100");
        C.due("none ahead", x.risk(0, 0), 100);
        C.due("the mean of one", x.risk(1, 0), 100 + 10 - 30);
        C.due("of two", x.risk(2, 0), 100 + 10 - 20);
        C.due("of three, cut", x.risk(3, 0), 100 + 10 - 16);
        C.due("of six", x.risk(6, 0), 100 + 10 - 13);
        C.due("of seven", x.risk(7, 0), 100 + 10 - 12);
        C.due("of seven, not eight", x.risk(8, 0), 100);
        C.due("above", x.risk(9, 0), 120);
        C.due("rest", x.risk(10, 0), 100 - 12);
        C.due("seven days of rest ahead", x.risk(119, 0), 100);
        C.says(21, "d the DAY, l LONG,");
        Check.take(x, 1, "d+l*200");
        C.due("day 0", x.risk(0, 0), 0);
        C.due("day 1", x.risk(1, 0), 601);
        C.due("day 9", x.risk(9, 0), 9);
        C.due("day 119", x.risk(119, 0), 119);
        C.says(21, "g days to the next COUNTING DAY (99: none).");
        Check.take(x, 1, "g");
        C.due("day 0", x.risk(0, 0), 9);
        C.due("on the day", x.risk(9, 0), 0);
        C.due("of the next", x.risk(10, 0), 20);
        C.due("on the last", x.risk(30, 0), 0);
        C.due("none", x.risk(31, 0), 99);
        C.due("none on day 119", x.risk(119, 0), 99);
        x.forget();
        C.due("none at all", x.risk(0, 0), 99);
        x.counts(119, 1);
        C.due("more than 99 are told", x.risk(0, 0), 119);
        x.counts(100, 1);
        C.due("told behind it, but next", x.risk(0, 0), 100);
    }

    private static void risks() {
        FitOnDay x = made();
        C.says(21, "(held within 0 .. 1000; without a text 0).");
        C.each("no law: risk", rd -> x.risk(rd, 0), 0, 0, 119);
        C.each("no law: whole", rd -> x.risk(rd, 1), 1000, 0, 119);
        C.each("no law: hurt on", rd -> x.risk(rd, 2), 0, 0, 119);
        Check.take(x, 1, "d=0?0-1;d=1?1001;d=2?1000;d=3?9999*9999;d=4?-(8192*8192*32);999");
        C.due("-1", x.risk(0, 0), 0);
        C.due("1001", x.risk(1, 0), 1000);
        C.due("1000", x.risk(2, 0), 1000);
        C.due("99980001", x.risk(3, 0), 1000);
        C.due("the least int", x.risk(4, 0), 0);
        C.due("999", x.risk(5, 0), 999);
        Check.take(x, 1, "d=1?500;d=2?250;d=3?2000;0-7");
        C.says(21, "WHOLE till a DAY: thousandths: 1000000 times (1000 less RISK) / 1000 (cut) for each DAY to that one, by 1000 (cut).");
        C.due("0", x.risk(0, 1), 1000);
        C.due("1: that one too", x.risk(1, 1), 500);
        C.due("2", x.risk(2, 1), 375);
        C.due("3", x.risk(3, 1), 0);
        C.due("4", x.risk(4, 1), 0);
        C.due("119", x.risk(119, 1), 0);
        C.says(21, "HURT ON a DAY, for the first time: millionths that are WHOLE ahead times RISK / 1000 (cut); told by 1000 (cut).");
        C.due("on 0", x.risk(0, 2), 0);
        C.due("on 1", x.risk(1, 2), 500);
        C.due("on 2", x.risk(2, 2), 125);
        C.due("on 3", x.risk(3, 2), 375);
        C.due("on 4", x.risk(4, 2), 0);
        Check.take(x, 1, "d<2?333;999");
        // whole ahead of 2: 444889
        C.due("444444, not 444 and 999 of each", x.risk(2, 2), 444);
        C.says(21, "RISK of a DAY by THE PLAN: thousandths");
        Check.take(x, 1, "w*100");
        C.due("rest", x.risk(5, 0), 0);
        x.plan(5, 2);
        C.due("by the plan", x.risk(5, 0), 200);
        C.due("the day ahead", x.risk(4, 0), 0);
        C.says(21, "RISK (what 0), WHOLE till (1), HURT ON (2, thousandths, cut).");
        Check.take(x, 1, "333");
        // 667000, 444889, 296740 (cut), 197925 (cut), 132015 (cut); by whole thousandths it would be 667, 444, 296, 197, 131
        C.due("risk", x.risk(3, 0), 333);
        C.due("whole", x.risk(3, 1), 197);
        C.due("whole", x.risk(4, 1), 132);
        C.due("296740 * 333 / 1000 = 98814", x.risk(3, 2), 98);
        Check.take(x, 1, "1");
        // 999000, 998001, 997002 (cut)
        C.due("whole", x.risk(2, 1), 997);
        C.due("hurt: 998", x.risk(2, 2), 0);
        C.due("hurt: 1000", x.risk(0, 2), 1);
        C.says(21, "BAD.");
        C.each("what", what -> x.risk(0, what), BAD, -1, 3, MIN, MAX);
        C.each("rd", rd -> x.risk(rd, 0), BAD, NO_RUNNERS_DAYS);
        C.each("rd", rd -> x.risk(rd, 2), BAD, NO_RUNNERS_DAYS);
        C.due("no runner yet", new FitOnDay().risk(0, 0), BAD);
    }

    private static void runners() {
        FitOnDay x = new FitOnDay();
        for (int r = 0; r < 5; r++) x.runner(500500, 500 + 200 * r);
        x.work(100);
        x.work(200);
        x.plan(0, 1);
        x.plan(119, 2);
        C.says(21, "RISK of a DAY");
        Check.take(x, 1, "d+1");
        for (int r = 0; r < 5; r++) C.each("the day", rd -> x.risk(rd, 0) - rd % 1000, 1, 1000 * r, 1000 * r + 3, 1000 * r + 119);
        Check.take(x, 1, "s*10");
        // strong 5, 7, 9, 11, 13 on day 0
        for (int r = 0; r < 5; r++) C.due("the runner: risk", x.risk(1000 * r, 0), 50 + 20 * r);
        for (int r = 0; r < 5; r++) C.due("the runner: whole", x.risk(1000 * r, 1), 950 - 20 * r);
        for (int r = 0; r < 5; r++) C.due("the runner: hurt", x.risk(1000 * r, 2), 50 + 20 * r);
        for (int r = 0; r < 5; r++) C.due("the last day", x.risk(1000 * r + 119, 0), 100 + 40 * r);
        C.says(23, "MEAN FIT on a DAY");
        for (int r = 0; r < 5; r++) C.due("day 0", x.mean(1000 * r), 5000 + 2000 * r);
        for (int r = 0; r < 5; r++) C.due("the last day", x.mean(1000 * r + 119), 10000 + 4000 * r);
    }

    private static void lost() {
        FitOnDay x = made();
        C.says(22, "(1 .. 60, told; 14 at first)");
        C.each("too few, too many", x::lost, BAD, 0, -1, 61, MIN, MAX);
        C.due("14", x.lost(1), 14);
        C.says(22, "LOST becomes v: what it was. BAD.");
        C.due("1", x.lost(60), 1);
        C.due("BAD", x.lost(61), BAD);
        C.due("60", x.lost(60), 60);
        C.due("60 again", x.lost(14), 60);
        C.says(22, "IF HURT on a DAY one rests for LOST days (1 .. 60, told; 14 at first) behind it");
        FitOnDay y = new FitOnDay();
        y.runner(999001, 1000);
        y.work(10);
        y.shape(1, 70, 119);
        Check.take(y, 1, "d=10?1000;0");
        for (int lost : new int[] {14, 1, 2, 60}) {
            y.lost(lost);
            C.due("the last lost day", y.mean(10 + lost), left(1, lost, lost + 11));
            C.due("the day behind", y.mean(11 + lost), 1000 + left(1, lost + 1, lost + 12));
        }
    }

    /** What is left of a 1 that came on each of the days from .. to - 1 ago. */
    private static int left(int goes, int from, int to) {
        int all = 0;
        int left = 1000;
        for (int k = 0; k < to; k++) {
            if (k >= from) all += left;
            left = left * (1000 - goes) / 1000;
        }
        return all;
    }

    private static void means() {
        FitOnDay x = made();
        for (int d = 0; d < 6; d++) x.plan(d, 1);
        C.says(23, "MEAN FIT on a DAY: over all DAYS on which one can be HURT first, or never:");
        C.each("no law", rd -> x.mean(rd) - x.fit(rd, 0), 0, 0, 5, 119);
        Check.take(x, 1, "d=2?400;0");
        // hurt on 2: days 3 to 5 are rest; 10 points a 1000 left
        int fit = 10 * (1000 + 500 + 250 + 125 + 62 + 31);
        int hurt = 10 * (125 + 62 + 31);
        C.due("hurt on 2 or never", x.mean(5), (400000L * hurt + 600000L * fit) / 1000000);
        C.due("hurt by all means", Check.take(x, 1, "1000"), 1);
        C.due("on day 0", x.mean(5), 10 * 31);
        Check.take(x, 1, "d=2?400;0");
        C.says(23, "one rests for LOST days");
        C.due("hurt on the day itself: fit as if not", x.mean(2), x.fit(2, 0));
        C.due("on the next", x.mean(3), (400000L * 10 * (500 + 250 + 125) + 600000L * x.fit(3, 0)) / 1000000);
        C.says(23, "(then THE PLAN goes on, nobody is hurt again).");
        x.lost(2);
        C.due("day 5 again", x.mean(5), (400000L * (hurt + 10000) + 600000L * fit) / 1000000);
        x.lost(1);
        Check.take(x, 1, "500");
        // whole ahead of 0 .. 5 and those it hurts: 500000, 250000, 125000, 62500, 31250, 15625, left 15625
        long sum = 0;
        int whole = 1000000;
        for (int h = 0; h <= 5; h++) {
            sum += whole / 2 * (long) (fit - (h < 5 ? x.points(0, 1, 4 - h) : 0));
            whole -= whole / 2;
        }
        C.due("hurt at most once", x.mean(5), (sum + (long) whole * fit) / 1000000);
        C.says(23, "MEAN FIT. VOID: BAD.");
        C.each("rd", x::mean, VOID, NO_RUNNERS_DAYS);
        C.due("no runner yet", new FitOnDay().mean(0), VOID);
    }

    private static void meansAreLong() {
        FitOnDay x = new FitOnDay();
        x.runner(999001, 1500);
        x.work(990);
        x.shape(1, 70, 119);
        Check.take(x, 1, "7");
        C.says(23, "those millionths times FIT then, together by 1000000 (cut; longs); never: what is left of 1000000.");
        int[] brings = new int[120];
        for (int d = 0; d < 120; d++) brings[d] = x.points(0, 1, 119 - d);
        long sum = 0;
        int whole = 1000000;
        int never = 1000000;
        for (int h = 0; h <= 119; h++) {
            int hurt = whole * 7 / 1000;
            long fit = 0;
            for (int d = 0; d < 120; d++) if (d <= h || d > h + 14) fit += brings[d];
            sum += hurt * fit;
            whole = whole * 993 / 1000;
            never -= hurt;
        }
        C.holds("what is left is more than what is whole", never > whole + 50);
        C.due("sixteen million points", x.mean(119), (sum + never * (long) x.fit(119, 0)) / 1000000);
        FitOnDay y = made();
        y.plan(0, 1);
        y.mend(1, 1, 0);
        y.plan(1, 2);
        Check.take(y, 1, "d=0?333;0");
        // -5000 - 20000, and -5000 of the third that is hurt on day 0
        C.due("below 0", y.mean(1), -(667 * 25 + 333 * 5));
        Check.take(y, 1, "d=0?1;0");
        y.mend(1, 0, 1);
        y.mend(2, 0, 1);
        y.mend(2, 1, 0);
        // on day 2: -250 - 500, and -250 of one in a thousand: -749.5
        C.due("below 0, cut", y.mean(2), -749);
        y.mend(1, 0, 0);
        y.mend(2, 0, 0);
        y.mend(1, 1, 1);
        y.mend(2, 1, 1);
        C.due("above 0, cut", y.mean(2), 749);
    }

    private static void judges() {
        FitOnDay x = made();
        C.says(24, "BAD; NOT.");
        C.due("no book", x.judge(0), NOT);
        Check.take(x, 1, "1000");
        C.due("a law is no book", x.judge(0), NOT);
        Check.take(x, 2, "t>25");
        C.due("never", x.judge(0), NOT);
        C.each("runner", x::judge, BAD, -1, 1, 5, MIN, MAX);
        C.due("no runner yet", new FitOnDay().judge(0), BAD);
        C.says(24, "A BOOK (TEXT 2, the same NAMES) says which DAY has too much: the first DAY that it gives not 0: JUDGED; NOT.");
        x.plan(7, 2);
        x.plan(90, 2);
        C.due("the first", x.judge(0), 7);
        Check.take(x, 2, "d=119");
        C.due("the last day", x.judge(0), 119);
        Check.take(x, 2, "d>119");
        C.due("no day is behind the last one", x.judge(0), NOT);
        Check.take(x, 2, "1");
        C.due("day 0", x.judge(0), 0);
        Check.take(x, 2, "d=60?0-1");
        C.due("below 0 is not 0", x.judge(0), 60);
        Check.take(x, 2, "w=2&d>7");
        C.due("w", x.judge(0), 90);
        x.counts(20, 1);
        Check.take(x, 2, "g=0");
        C.due("g", x.judge(0), 20);
        Check.take(x, 2, "j>29&d>8");
        C.due("j", x.judge(0), 90);
        Check.take(x, 2, "s=10&t=30&d>7");
        C.due("s and t", x.judge(0), 90);
        x.plan(33, 1);
        Check.take(x, 2, "l=3");
        C.due("l", x.judge(0), 33);
        C.says(24, "JUDGED by the BOOK.");
        x.runner(999500, 1500);
        Check.take(x, 2, "s>20");
        C.due("runner 0", x.judge(0), NOT);
        C.due("runner 1 is stronger", x.judge(1), 33);
    }

    private static void feels() {
        FitOnDay x = made();
        x.plan(0, 1);
        x.plan(5, 1);
        x.plan(9, 1);
        C.says(25, "THE PLAN becomes that from a DAY to a DAY.");
        C.due("without a text: rest", x.feel(0, 5008), 0);
        C.due("from there", x.of(5), 0);
        C.due("not ahead", x.of(0), 1);
        C.due("not behind", x.of(9), 1);
        C.says(25, "CHANGES are none then.");
        C.due("none to undo", x.undo(), STATE);
        x.plan(40, 1);
        x.undo();
        x.feel(0, 0);
        C.due("none to do again", x.redo(), STATE);
        C.says(25, "(NAMES by DAYS ahead: t and s ahead of the DAY's WORK;");
        Check.take(x, 3, "t<6?1;0");
        x.plan(0, 1);
        // day 1: 5 ahead of its work, then 2.5 + 5 = 7, then 3, then 6.8, 3 ..
        C.due("by what is ahead", x.feel(0, 1004), 2);
        C.due("days 1 to 4", 1000 * x.of(1) + 100 * x.of(2) + 10 * x.of(3) + x.of(4), 1010);
        Check.take(x, 3, "s/2");
        x.shape(2, 10, 0);
        // 10 on day 0, so 5 on day 1, and of the 2 there and 5 more 1 on day 2: (2500 + 5000) / 1000 / 2 = 3
        C.due("s ahead of the work", x.feel(0, 1002), 1);
        C.due("5 / 2", x.of(1), 2);
        C.due("7 / 2 is no work", x.of(2), 0);
        Check.take(x, 3, "t=0&s=0");
        x.shape(2, 70, 6);
        C.due("day 0 has none ahead", x.feel(0, 0), 1);
        C.due("work 1", x.of(0), 1);
        Check.take(x, 3, "t=2&s=5");
        x.plan(0, 1);
        x.plan(1, 0);
        x.plan(2, 0);
        C.due("10 and 20, two days on, cut", x.feel(0, 2002), 1);
        C.due("work 1", x.of(2), 1);
        FitOnDay y = new FitOnDay();
        y.runner(500001, 1000);
        y.work(2010);
        y.plan(0, 1);
        Check.take(y, 3, "t=1&s=0");
        C.due("1000 are 1, 999 are 0", y.feel(0, 1001), 1);
        y.mend(1, 0, 1);
        Check.take(y, 3, "t=0");
        C.due("500 are 0", y.feel(0, 1001), 1);
        y.runner(1001, 1000);
        C.due("999 are 0", y.feel(1, 1001), 1);
        C.says(25, "w the WORK of the day ahead;");
        Check.take(x, 3, "w=0");
        C.due("one of two", x.feel(0, 9), 5);
        C.due("day 0 has none ahead", x.of(0), 1);
        C.due("day 1 has", x.of(1), 0);
        C.due("from the plan ahead", x.feel(0, 1001), 0);
        Check.take(x, 3, "w");
        x.shape(2, 10, 0);
        C.due("as the day ahead", x.feel(0, 1007), 7);
        C.due("day 7", x.of(7), 2);
        C.due("day 0: rest", x.feel(0, 0), 0);
    }

    private static void feelsNames() {
        FitOnDay x = made();
        C.says(25, "j 0; l 0;");
        Check.take(x, 3, "2+j+l");
        x.plan(0, 1);
        x.plan(1, 1);
        C.due("on works of 3 hours", x.feel(0, 1), 2);
        C.due("2 on day 0", x.of(0), 2);
        C.due("2 on day 1", x.of(1), 2);
        Check.take(x, 1, "l+j+100");
        x.plan(0, 2);
        x.plan(1, 1);
        C.due("a law has l and j", x.risk(1, 0), 100 + 3 - 20);
        C.due("by feel they are 0 still", x.feel(0, 0), 1);
        C.due("2 on day 0", x.of(0), 2);
        C.says(25, "d, g as told)");
        x.counts(10, 1);
        Check.take(x, 3, "g=3|d=9|g=99");
        C.due("g and d", x.feel(0, 12), 4);
        C.due("day 7", x.of(7), 1);
        C.due("day 9", x.of(9), 1);
        C.due("days 11 and 12", x.of(11) + x.of(12), 2);
        C.due("not day 10", x.of(10), 0);
        C.says(25, "BY FEEL: a TEXT 3: DAY by DAY what it gives (a WORK there is, else rest) is the WORK of the DAY");
        Check.take(x, 3, "3");
        C.due("no such work", x.feel(0, 119), 0);
        Check.take(x, 3, "0-1");
        C.due("below 0", x.feel(0, 119), 0);
        Check.take(x, 3, "-(8192*8192*32)");
        C.due("the least int", x.feel(0, 119), 0);
        Check.take(x, 3, "0");
        C.due("rest", x.feel(0, 119), 0);
        Check.take(x, 3, "2");
        C.due("the last work there is", x.feel(0, 119), 120);
        Check.take(x, 3, "3");
        x.work(5);
        C.due("3 is a work now", x.feel(0, 119119), 1);
        C.due("of 119", x.of(119), 3);
        C.says(25, "BY FEEL, from a DAY to a DAY (ft): how many DAYS work there.");
        Check.take(x, 3, "d%2");
        C.due("there alone", x.feel(0, 10013), 2);
        C.due("of all", x.count(2), 120 - 2);
        C.due("one day", x.feel(0, 11011), 1);
        C.says(25, "BAD.");
        x.plan(7, 1);
        C.each("ft", ft -> x.feel(0, ft), BAD, -1, -1000, 120, 999, 120119, 119120, 120120, MIN, MAX);
        C.each("a last day ahead of the first", ft -> x.feel(0, ft), BAD, 1000, 5004, 119118);
        C.each("runner", runner -> x.feel(runner, 5), BAD, -1, 1, 5, MIN, MAX);
        C.due("no runner yet", new FitOnDay().feel(0, 5), BAD);
        C.due("changes stay", x.undo(), 0);
        C.due("by another", x.runner(1001, 500), 1);
        Check.take(x, 3, "s=13");
        x.shape(1, 10, 0);
        // 20 * 500 / 1000 = 10
        C.due("runner 1 is not so strong", x.feel(1, 1001), 0);
        Check.take(x, 3, "s=9");
        C.due("9", x.feel(1, 1001), 1);
    }

    public static void main(String[] args) {
        names();
        risks();
        runners();
        lost();
        means();
        meansAreLong();
        judges();
        feels();
        feelsNames();
        C.end();
    }
}
