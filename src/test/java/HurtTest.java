/** Promises 19 to 25: the tape, texts, hurt. */
public final class HurtTest {
    private static final int VOID = FitOnDay.VOID;
    private static final Check C = new Check();

    private static FitOnDay made() {
        FitOnDay x = new FitOnDay();
        x.runner(500500, 1000);
        x.work(10203);
        x.work(30100);
        return x;
    }

    private static void tape() {
        FitOnDay x = new FitOnDay();
        C.due("n 0", x.feed(0, 49), -1);
        C.due("n 5", x.feed(5, 49), -1);
        C.due("n -1", x.feed(-1, 49), -1);
        C.due("one of four", x.feed(1, 0x31323334), 1);
        C.due("four, the lowest first", x.feed(4, '2' | '+' << 8 | '7' << 16 | '5' << 24), 5);
        C.due("count(4)", x.count(4), 5);
        C.due("taken", x.text(1), 1);
        C.due("the tape is empty", x.count(4), 0);
        x.runner(500500, 1000);
        C.due("42 + 75", x.risk(0, 0), 117);
        for (int i = 1; i <= 29; i++) C.due("feed", x.feed(4, 0x31313131), 4 * i);
        C.due("three", x.feed(3, 0), 119);
        C.due("FULL", x.feed(2, 0), -3);
        C.due("BAD ahead of FULL", x.feed(5, 0), -1);
        C.due("nothing came", x.count(4), 119);
        C.due("the last", x.feed(1, -1), 120);
        C.due("FULL", x.feed(1, 0), -3);
        C.due("BAD: it stays", x.text(0), -1);
        C.due("BAD: it stays", x.text(4), -1);
        C.due("BAD: it stays", x.count(4), 120);
        C.due("fifth digit", x.text(2), -104);
        C.due("empty behind a fault", x.count(4), 0);
    }

    private static void faults() {
        String[] texts = {"", "?", "1?", "1?2?3", "1;", ";", "1;;2", "12345", "1234", "t1", "1t", "tt", "(", "()", "(1", "(1))", "1)",
            "(1?2)", "(1;2)", "1?(2", "t<s<w", "t<s=w", "t<s&w>d", "(t<s)<w", "t<(s<w)", "t<s+w<d", "!t<s", "t!s", "!", "-", "--1", "1--1",
            "!!!!!!t", "!!!!!!!t", "((((((t))))))", "(((((((t", "-(-(-(t)))+-(-(-(t)))", "!-!-!-(t", "!!!!!!t+!!!!!!t", "x", "T", " 1", "1 ", "+1",
            "1+", "1*/2", "1||2", "t|s&w<d+l*g", "1?2;3?4;5", "0?1", "\u00ff", "1\u0000", "(1)(2)", "(1)2", "12(3)", "t?s?w", "t;s?w;d?l", "1?2;3?4?5",
            "(((t)))))", "1<2>3", "1=2", "1%2", "%"};
        int[] dues = {-100, -100, -102, -103, -102, -100, -102, -104, 1, -101, -101, -101, -101, -101, -102, -103, -101,
            -102, -102, -104, -103, -103, 1, 1, 1, -105, 1, -101, -101, -101, 1, 1,
            1, -106, 1, -106, 1, -106, 1, -100, -100, -100, -101, -100,
            -102, -102, -102, 1, 1, 1, -100, -101, -103, -103, -102, -103, 1, -107,
            -107, -103, 1, 1, -100};
        C.due("as many dues", dues.length, texts.length);
        FitOnDay x = new FitOnDay();
        for (int i = 0; i < texts.length; i++) C.due("text " + texts[i], Check.take(x, 3, texts[i]), dues[i]);
    }

    private static void values() {
        String[] texts = {"7", "2+3*4", "(2+3)*4", "9-3-2", "9/2", "0-9/2", "(0-9)/2", "(0-9)%4", "9%4", "5/0", "5%0", "8/2*3", "7*3%4", "1|0", "0|0", "2&3", "2&0",
            "5|0", "5", "1<2", "2<1", "2<2", "2=2", "2=3", "3>2", "2>3", "2>2", "!5", "!0", "!!7", "-5+9", "--5", "-(2-9)", "!1+1", "1+1=2&3", "1?8", "0?8", "0?8;9", "0?8;0?7;6",
            "2?8;1", "1;2", "1|1&0", "9999*9999", "9999*9999*9999*9999", "0-9999", "1000", "1001", "d", "w", "l", "t", "s", "g", "j", "1+2<4", "-1<0", "!0*5"};
        int[] dues = {7, 14, 20, 4, 4, 0, 0, 0, 1, 0, 0, 12, 1, 1, 0, 1, 0,
            1, 5, 1, 0, 0, 1, 0, 1, 0, 0, 0, 1, 1, 4, 5, 7, 1, 1, 8, 0, 9, 6,
            8, 1, 1, 1000, wrapped(), 0, 1000, 1000, 1, 1, 3, 10, 20, 4, 10, 1, 1, 5};
        C.due("as many dues", dues.length, texts.length);
        FitOnDay x = made();
        x.plan(1, 1);
        x.counts(5, 1);
        for (int i = 0; i < texts.length; i++) {
            C.due("text " + texts[i], Check.take(x, 1, texts[i]), 1);
            C.due("risk by " + texts[i], x.risk(1, 0), dues[i]);
        }
        C.due("a fault", Check.take(x, 1, "9+"), -102);
        C.due("the text stays", x.risk(1, 0), 5);
        // below 0 seen by the book, whose answer is not held
        Check.take(x, 2, "(0-9)/2=0-4");
        C.due("/ toward 0", x.judge(0), 0);
        Check.take(x, 2, "(0-9)%4=0-1");
        C.due("% toward 0", x.judge(0), 0);
        Check.take(x, 2, "9999*9999*9999<0");
        C.due("wraps", x.judge(0), (9999 * 9999 * 9999 < 0) ? 0 : -2);
    }

    private static int wrapped() {
        int v = 9999 * 9999 * 9999 * 9999;
        return Math.max(0, Math.min(1000, v));
    }

    private static void names() {
        FitOnDay x = made();
        x.plan(0, 2);
        for (int d = 1; d <= 8; d++) x.plan(d, 1);
        x.plan(9, 2);
        x.counts(9, 1);
        x.counts(30, 1);
        Check.take(x, 1, "j+100");
        C.due("none ahead", x.risk(0, 0), 100);
        C.due("the mean of one", x.risk(1, 0), 100 + 10 - 30);
        C.due("of two", x.risk(2, 0), 100 + 10 - 20);
        C.due("of three, cut", x.risk(3, 0), 100 + 10 - 16);
        C.due("of seven, not eight", x.risk(8, 0), 100);
        C.due("above", x.risk(9, 0), 120);
        C.due("rest", x.risk(10, 0), 100 - 12);
        Check.take(x, 1, "g");
        C.due("g 9", x.risk(0, 0), 9);
        C.due("g on the day", x.risk(9, 0), 0);
        C.due("g of the next", x.risk(10, 0), 20);
        C.due("g none", x.risk(31, 0), 99);
        Check.take(x, 1, "t*10");
        C.due("t 0", x.risk(0, 0), 300);
        C.due("t 1", x.risk(1, 0), 250);
        C.due("t 2 (cut)", x.risk(2, 0), (30 * 250 + 10 * 500 + 10 * 1000) / 1000 * 10);
        Check.take(x, 1, "l*100+w*10");
        C.due("l and w", x.risk(1, 0), 310);
        C.due("of another", x.risk(9, 0), 20);
    }

    private static void risks() {
        FitOnDay x = made();
        C.due("no law", x.risk(119, 0), 0);
        C.due("whole without one", x.risk(119, 1), 1000);
        C.due("hurt without one", x.risk(119, 2), 0);
        Check.take(x, 1, "d=1?500;d=2?250;d=3?2000;0-7");
        C.due("held below", x.risk(0, 0), 0);
        C.due("held above", x.risk(3, 0), 1000);
        C.due("whole 0", x.risk(0, 1), 1000);
        C.due("whole 1", x.risk(1, 1), 500);
        C.due("whole 2", x.risk(2, 1), 375);
        C.due("whole 3", x.risk(3, 1), 0);
        C.due("whole 4", x.risk(4, 1), 0);
        C.due("hurt on 1", x.risk(1, 2), 500);
        C.due("hurt on 2", x.risk(2, 2), 125);
        C.due("hurt on 3", x.risk(3, 2), 375);
        C.due("hurt on 4", x.risk(4, 2), 0);
        C.due("what 3", x.risk(0, 3), -1);
        C.due("what -1", x.risk(0, -1), -1);
        C.due("runner 1", x.risk(1000, 0), -1);
        C.due("day 120", x.risk(120, 0), -1);
        C.due("below", x.risk(-1, 0), -1);
        Check.take(x, 1, "333");
        // 667000, 444889, 296740 (cut), 197925 (cut)
        C.due("cut as it goes", x.risk(3, 1), 197);
        C.due("296740 * 333 / 1000", x.risk(3, 2), 98);
    }

    private static void means() {
        FitOnDay x = made();
        for (int d = 0; d < 6; d++) x.plan(d, 1);
        C.due("no law", x.mean(5), x.fit(5, 0));
        Check.take(x, 1, "d=2?400;0");
        // hurt on 2: days 3 to 5 are rest; 10 points a 1000 left
        int fit = 10 * (1000 + 500 + 250 + 125 + 62 + 31);
        int hurt = 10 * (125 + 62 + 31);
        C.due("mean", x.mean(5), (400000L * hurt + 600000L * fit) / 1000000);
        C.due("the day itself", x.mean(2), x.fit(2, 0));
        C.due("lost", x.lost(2), 14);
        C.due("day 5 again", x.mean(5), (400000L * (hurt + 10000) + 600000L * fit) / 1000000);
        C.due("lost was", x.lost(60), 2);
        C.due("lost 0", x.lost(0), -1);
        C.due("lost 61", x.lost(61), -1);
        C.due("lost -1", x.lost(-1), -1);
        C.due("lost stays", x.lost(1), 60);
        Check.take(x, 1, "500");
        // whole ahead of 0 .. 5 and those it hurts: 500000, 250000, 125000, 62500, 31250, 15625, left 15625
        long sum = 0;
        int whole = 1000000;
        for (int h = 0; h <= 5; h++) {
            sum += whole / 2 * (long) (fit - (h < 5 ? x.points(0, 1, 4 - h) : 0));
            whole -= whole / 2;
        }
        C.due("hurt at most once", x.mean(5), (sum + (long) whole * fit) / 1000000);
        C.due("runner 1", x.mean(1000), VOID);
        C.due("day 120", x.mean(120), VOID);
        C.due("below", x.mean(-1), VOID);
        x.mend(1, 1, 0);
        C.due("cut toward 0", x.mean(0), -10000);
    }

    private static void judges() {
        FitOnDay x = made();
        C.due("no book", x.judge(0), -2);
        Check.take(x, 2, "t>25");
        C.due("never", x.judge(0), -2);
        x.plan(7, 2);
        x.plan(90, 2);
        C.due("the first", x.judge(0), 7);
        Check.take(x, 2, "d=119");
        C.due("the last day", x.judge(0), 119);
        Check.take(x, 2, "d=60?0-1");
        C.due("below 0 is not 0", x.judge(0), 60);
        C.due("runner 1", x.judge(1), -1);
        C.due("runner -1", x.judge(-1), -1);
    }

    private static void feels() {
        FitOnDay x = made();
        x.plan(0, 1);
        x.plan(5, 1);
        x.plan(9, 1);
        C.due("no text: rest", x.feel(0, 5008), 0);
        C.due("from there", x.of(5), 0);
        C.due("not ahead", x.of(0), 1);
        C.due("not behind", x.of(9), 1);
        C.due("changes are none", x.undo(), -5);
        Check.take(x, 3, "t<6?1;0");
        // day 1: 5 ahead of its work, then 2.5 + 5 = 7, then 3, then 6.8, 3 ..
        C.due("by what is ahead", x.feel(0, 1004), 2);
        C.due("day 1", x.of(1), 1);
        C.due("day 2", x.of(2), 0);
        C.due("day 3", x.of(3), 1);
        C.due("day 4", x.of(4), 0);
        Check.take(x, 3, "w=0");
        C.due("w of the day ahead", x.feel(0, 9), 5);
        C.due("day 0 has none ahead", x.of(0), 1);
        C.due("day 1 has", x.of(1), 0);
        C.due("from the plan ahead", x.feel(0, 1001), 0);
        Check.take(x, 3, "3");
        C.due("no such work", x.feel(0, 119), 0);
        Check.take(x, 3, "0-1");
        C.due("below 0", x.feel(0, 119), 0);
        Check.take(x, 3, "2+j+l");
        x.plan(0, 1);
        C.due("j 0, l 0", x.feel(0, 1), 2);
        C.due("2", x.of(1), 2);
        Check.take(x, 1, "l+j+100");
        C.due("l and j of day 0", x.risk(0, 0), 100);
        x.plan(1, 1);
        C.due("l and j of day 1", x.risk(1, 0), 100 + 3 - 20);
        C.due("j and l are 0 by feel still", x.feel(0, 1), 2);
        Check.take(x, 3, "s/2");
        x.shape(2, 10, 0);
        // 10 on day 0, so 5 on day 1, and of the 2 there and 5 more 1 on day 2: (2500 + 5000) / 1000 / 2 = 3
        C.due("s ahead of the work", x.feel(0, 1002), 1);
        C.due("5 / 2", x.of(1), 2);
        C.due("7 / 2", x.of(2), 0);
        Check.take(x, 3, "t=6");
        x.shape(2, 70, 6);
        x.plan(0, 1);
        x.plan(1, 0);
        x.plan(2, 0);
        C.due("10 tires, two days on, cut", x.feel(0, 2002), 0);
        Check.take(x, 3, "t=2&s=5");
        C.due("2 and 5", x.feel(0, 2002), 1);
        C.due("work 1", x.of(2), 1);
        x.counts(10, 1);
        Check.take(x, 3, "g=3|d=9");
        C.due("g and d", x.feel(0, 12), 2);
        C.due("day 7", x.of(7), 1);
        C.due("day 9", x.of(9), 1);
        x.plan(7, 2);
        C.due("runner 1", x.feel(1, 5), -1);
        C.due("to 120", x.feel(0, 120), -1);
        C.due("from behind", x.feel(0, 5004), -1);
        C.due("below", x.feel(0, -1), -1);
        C.due("from 120", x.feel(0, 120119), -1);
        C.due("changes stay", x.undo(), 0);
    }

    public static void main(String[] args) {
        tape();
        faults();
        values();
        names();
        risks();
        means();
        judges();
        feels();
        C.end();
    }
}
