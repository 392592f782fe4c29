/** Promises 19 and 20: the tape, texts, what they give. */
public final class TextsTest {
    private static final int BAD = FitOnDay.BAD, FULL = FitOnDay.FULL;
    private static final int MIN = Integer.MIN_VALUE, MAX = Integer.MAX_VALUE;
    private static final String NAMES = "tswjdlg", DIGITS = "0123456789", OPENING = "(!-", JOINING = "|&<=>+-*/%";
    private static final Check C = new Check();

    private static void tape() {
        FitOnDay x = new FitOnDay();
        x.runner(500500, 1000);
        C.says(19, "n (1 .. 4) bytes come to THE TAPE,");
        C.each("n", n -> x.feed(n, 49), BAD, 0, -1, 5, MIN, MAX);
        C.due("the tape is empty", x.count(4), 0);
        C.says(19, "the lowest of v first: how many it has.");
        C.due("one of four", x.feed(1, 0x37363534), 1);
        C.due("four", x.feed(4, '2' | '+' << 8 | '7' << 16 | '5' << 24), 5);
        C.due("so many", x.count(4), 5);
        C.due("taken", x.text(1), 1);
        C.due("42 + 75", x.risk(0, 0), 117);
        C.due("two of four", x.feed(2, 0x37363534), 2);
        C.due("three of four", x.feed(3, '6' << 24 | '*' << 16 | '2' << 8 | '*'), 5);
        C.due("ends with a sign", x.text(1), -105);
        C.due("two of four", x.feed(2, 0x37363534), 2);
        C.due("three of four", x.feed(3, '6' << 24 | '2' << 16 | '-' << 8 | '/'), 5);
        C.due("taken", x.text(1), 1);
        C.due("54 / -2", x.risk(0, 0), 0);
        C.due("the highest byte is one without a sign", x.feed(4, MIN | 0x313131), 4);
        C.due("128 is no sign", x.text(1), -103);
        C.says(19, "BAD, FULL.");
        for (int i = 1; i <= 29; i++) C.due("four", x.feed(4, 0x31313131), 4 * i);
        C.due("three", x.feed(3, 0), 119);
        C.each("do not fit", n -> x.feed(n, 0), FULL, 2, 3, 4);
        C.each("BAD ahead of FULL", n -> x.feed(n, 0), BAD, 0, 5);
        C.due("nothing came", x.count(4), 119);
        C.says(19, "HURT by THE LAW, a TEXT by THE TAPE (at most 120 bytes):");
        C.due("the last", x.feed(1, 49), 120);
        C.each("none more", n -> x.feed(n, 49), FULL, 1, 2, 4);
        C.due("so many still", x.count(4), 120);
        C.due("fifth digit", x.text(2), -104);
        for (int i = 1; i <= 30; i++) C.due("four", x.feed(4, '1' | '+' << 8 | '1' << 16 | '+' << 24), 4 * i);
        C.due("120 bytes that end too early", x.text(1), -220);
        for (int i = 1; i <= 29; i++) C.due("four", x.feed(4, '1' | '+' << 8 | '1' << 16 | '+' << 24), 4 * i);
        C.due("the last four", x.feed(4, '1' | '+' << 8 | '3' << 16 | '1' << 24), 120);
        C.due("a text of 120 bytes", x.text(1), 1);
        C.due("59 ones and 31", x.risk(0, 0), 59 + 31);
        x.feed(4, '!' | '0' << 8 | '+' << 16 | '1' << 24);
        for (int i = 2; i <= 30; i++) C.due("four", x.feed(4, '+' | '1' << 8 | '+' << 16 | '1' << 24), 4 * i);
        C.due("a text of 120 bytes, each a sign of its own", x.text(1), 1);
        C.due("!0 and 59 ones", x.risk(0, 0), 60);
        for (int i = 1; i <= 30; i++) x.feed(4, '1' | '+' << 8 | '1' << 16 | '+' << 24);
        C.due("full: taken as what is not there", x.text(0), BAD);
        C.due("still full", x.feed(1, 49), FULL);
    }

    private static void whichText() {
        FitOnDay x = new FitOnDay();
        x.runner(500500, 1000);
        x.work(10100);
        C.says(20, "BAD (it stays).");
        Check.feed(x, "1");
        C.each("which", x::text, BAD, 0, -1, 4, MIN, MAX);
        C.due("a byte still", x.count(4), 1);
        C.due("which it is", x.text(1), 1);
        C.due("1", x.risk(0, 0), 1);
        C.says(20, "THE TAPE becomes TEXT 1 THE LAW, 2 the BOOK, 3 BY FEEL: 1;");
        C.due("the book is not it", x.judge(0), FitOnDay.NOT);
        C.due("nor what is felt", x.feel(0, 5), 0);
        C.due("the book", Check.take(x, 2, "d=7"), 1);
        C.due("judged", x.judge(0), 7);
        C.due("the law stays", x.risk(7, 0), 1);
        C.due("nothing felt", x.feel(0, 5), 0);
        C.due("by feel", Check.take(x, 3, "d<4"), 1);
        C.due("felt", x.feel(0, 5), 4);
        C.due("the law stays", x.risk(4, 0), 1);
        C.due("the book stays", x.judge(0), 7);
        C.due("another law", Check.take(x, 1, "25"), 1);
        C.due("it is the law", x.risk(4, 0), 25);
        C.says(20, "THE TAPE is empty then.");
        C.due("behind a text", x.count(4), 0);
        C.due("behind a fault", Check.take(x, 1, "1+x1"), -102);
        C.due("behind a fault", x.count(4), 0);
        C.due("an empty tape", x.text(1), -100);
        C.due("not what came ahead", Check.take(x, 1, "7"), 1);
        C.due("7", x.risk(0, 0), 7);
        C.says(20, "1; -100 less its FAULT;");
        C.due("at 0", Check.take(x, 1, "x"), -100);
        C.due("at 1", Check.take(x, 1, "1x"), -101);
        C.due("at its end", Check.take(x, 1, "1+"), -102);
        C.due("the law stays", x.risk(0, 0), 7);
        C.due("of the book", Check.take(x, 2, "0;"), -102);
        C.due("the book stays", x.judge(0), 7);
        C.due("of what is felt", Check.take(x, 3, "0?"), -102);
        C.due("felt as ahead", x.feel(0, 5), 4);
    }

    /** The signs that go on behind a start; with each of the others there is a fault at their place. */
    private static void goesOn(String start, String signs) {
        FitOnDay x = new FitOnDay();
        for (int sign = 0; sign < 256; sign++) {
            if (sign % 16 == 0) x = new FitOnDay();
            int answer = Check.take(x, 3, new StringBuilder(start).append((char) sign).toString());
            boolean goesOn = answer == 1 || answer == -100 - start.length() - 1;
            C.due("sign " + sign + " behind " + start, goesOn ? 1 : answer, signs.indexOf(sign) >= 0 ? 1 : -100 - start.length());
        }
    }

    private static void grammar() {
        String noB = "|&+-*/%";
        C.says(20, "LINES, one or more, parted by ;");
        faults("", 0, ";", 0, "1;", 2, "1;;2", 2, "1;2", -1, "1;2;", 4, "1;2;3", -1);
        goesOn("1;", DIGITS + NAMES + OPENING);
        C.says(20, "LINE: E, or E ? E (what counts if the first is not 0).");
        faults("?", 0, "1?", 2, "1?2?3", 3, "1?2;3?4", -1, "1?2;3?4?5", 7, "(1?2)", 2, "1?;2", 2, "(1;2)", 2);
        faults("1|2?3", -1, "1&2?3|4", -1, "1<2?3<4", -1, "1+2?-3", -1, "!1?!2", -1);
        goesOn("t", JOINING + "?;");
        goesOn("t|s", JOINING + "?;");
        goesOn("t?s", JOINING + ";");
        goesOn("t?", DIGITS + NAMES + OPENING);
        goesOn("t?s;w", JOINING + "?;");
        C.says(20, "E = A { | A }. A = B { & B }.");
        faults("1||2", 2, "1&&2", 2, "1|2|3&4&5", -1, "|1", 0, "&1", 0, "1|", 2, "1&", 2);
        goesOn("1|", DIGITS + NAMES + OPENING);
        C.says(20, "B = S, or S < S, S = S, S > S.");
        faults("t<s<w", 3, "t<s=w", 3, "t=s>w", 3, "t<s+w<d", 5, "t<s&w>d|j=l", -1, "(t<s)<w", -1, "t<(s<w)", -1, "t<-s<w", 4, "t<s?w<d", -1);
        goesOn("t<s", noB + "?;");
        goesOn("t+s>w*d", noB + "?;");
        goesOn("t<s&w", JOINING + "?;");
        goesOn("t<s;w", JOINING + "?;");
        goesOn("t<s?w", JOINING + ";");
        C.says(20, "S = P { + P, - P }. P = O { * O, / O, % O }.");
        faults("+1", 0, "1+", 2, "1*/2", 2, "1-*2", 2, "1--1", -1, "1*-1", -1, "%", 0, "1%2/3*4+5-6", -1, "1++1", 2);
        goesOn("1*", DIGITS + NAMES + OPENING);
        C.says(20, "O = a number (1 to 4 digits), a NAME, ! O, - O, ( E ).");
        faults("1234", -1, "12345", 4, "00000", 4, "0000", -1, "1+12345", 6, "1t", 1, "t1", 1, "tt", 1, "(1)2", 3, "12(3)", 2, "(1)(2)", 3, "t!s", 1);
        faults("(", 1, "()", 1, "(1", 2, "(1))", 3, "1)", 1, "!", 1, "-", 1, "--1", -1, "!-!1", -1, "1?(2", 4, "x", 0, "T", 0);
        goesOn("", DIGITS + NAMES + OPENING);
        goesOn("1", DIGITS + JOINING + "?;");
        goesOn("123", DIGITS + JOINING + "?;");
        goesOn("1234", JOINING + "?;");
        goesOn("(1", DIGITS + JOINING + ")");
        goesOn("(t", JOINING + ")");
        goesOn("((t)", JOINING + ")");
        goesOn("(t)", JOINING + "?;");
        goesOn("!", DIGITS + NAMES + OPENING);
        C.says(20, "No blanks.");
        faults(" 1", 0, "1 ", 1, "1 +1", 1, "1+ 1", 2, "1\n", 1, "\t1", 0, "1\u0000", 1, "\u00ff", 0);
        C.says(20, "At most 6 of ( ! - ahead of an O are open at once.");
        faults("!!!!!!t", -1, "!!!!!!!t", 6, "((((((t))))))", -1, "(((((((t", 6, "------1", -1, "-------1", 6, "!-!-!-(t", 6, "(((t)))))", 7);
        faults("-(-(-(t)))+-(-(-(t)))", -1, "!!!!!!t+!!!!!!t", -1, "!!!!!!t?!!!!!!t;!!!!!!t", -1, "(((((-t+-t)))))", -1, "(((((-t+--t", 9);
        goesOn("-----", DIGITS + NAMES + OPENING);
        goesOn("------", DIGITS + NAMES);
        goesOn("(((!-(", DIGITS + NAMES);
        goesOn("(((!-(t)", JOINING + ")");
        goesOn("(((!-(t)+", DIGITS + NAMES + OPENING);
        C.says(20, "FAULT: the place (from 0) of the first byte with which no TEXT goes on; the length, if it ends too early.");
        faults("q", 0, "1+q+", 2, "1+2*", 4, "((1)", 4, "1?2;", 4, "12", -1, "1q(", 1);
    }

    private static void faults(Object... textsAndPlaces) {
        FitOnDay x = new FitOnDay();
        for (int i = 0; i < textsAndPlaces.length; i += 2) {
            String text = (String) textsAndPlaces[i];
            int place = (Integer) textsAndPlaces[i + 1];
            C.due("text " + text, Check.take(x, 1 + i / 2 % 3, text), place < 0 ? 1 : -100 - place);
        }
    }

    /** Day 1 of an object: t 10, s 20, w 1, j 10, d 1, l 3, g 4. */
    private static FitOnDay namesTold() {
        FitOnDay x = new FitOnDay();
        x.runner(500500, 1000);
        x.work(10203);
        x.plan(1, 1);
        x.counts(5, 1);
        return x;
    }

    /** What a text gives on day 1, told by risk: within 0 .. 1000. */
    private static void gives(Object... textsAndValues) {
        FitOnDay x = namesTold();
        for (int i = 0; i < textsAndValues.length; i += 2) {
            String text = (String) textsAndValues[i];
            C.due("text " + text, Check.take(x, 1, text), 1);
            C.due("risk by " + text, x.risk(1, 0), (Integer) textsAndValues[i + 1]);
        }
    }

    /** What a text gives below 0 or above 1000: whether it is the number, by the book. */
    private static void givesBeyond(String text, String number) {
        FitOnDay x = namesTold();
        String asked = new StringBuilder("(").append(text).append(")=").append(number).toString();
        C.due("text " + asked, Check.take(x, 2, asked), 1);
        C.due(asked, x.judge(0), 0);
    }

    private static void values() {
        C.says(20, "a NAME");
        gives("t", 10, "s", 20, "w", 1, "j", 10, "d", 1, "l", 3, "g", 4);
        C.says(20, "a number (1 to 4 digits)");
        gives("7", 7, "0", 0, "42", 42, "999", 999, "0007", 7, "0070", 70, "9999/10", 999);
        C.says(20, "S = P { + P, - P }. P = O { * O, / O, % O }.");
        gives("9-3-2", 4, "9-3+2", 8, "2+3*4", 14, "(2+3)*4", 20, "8/2*3", 12, "7*3%4", 1, "7%4*3", 9, "100/10/5", 2, "20-2*3-1", 13, "9-(3-2)", 8);
        C.says(20, "! O, - O, ( E )");
        gives("!5", 0, "!0", 1, "!!7", 1, "-5+9", 4, "--5", 5, "-(2-9)", 7, "!1+1", 1, "!0*5", 5, "!-1", 0, "-!0+3", 2, "(1|0)*5", 5, "3--2", 5, "3*-2+9", 3);
        C.says(20, "Ints that wrap;");
        gives("9999*9999*9999*9999", Math.max(0, Math.min(1000, 9999 * 9999 * 9999 * 9999)));
        givesBeyond("8192*8192*31", "8192*8192*32-8192*8192");
        givesBeyond("8192*8192*32<0", "1");
        givesBeyond("8192*8192*32-1>0", "1");
        givesBeyond("8192*8192*64", "0");
        givesBeyond("-(8192*8192*32)", "8192*8192*32");
        givesBeyond("0-1-8192*8192*32>0", "1");
        C.says(20, "/ and % toward 0,");
        gives("9/2", 4, "8/2", 4, "9%4", 1, "-9/2+5", 1, "9/-2+5", 1, "-9/-2", 4, "-9%4+5", 4, "9%-4", 1, "-9%-4+5", 4, "1/2", 0, "0-1/2", 0);
        givesBeyond("-9/2", "-4");
        givesBeyond("-9%4", "-1");
        givesBeyond("8192*8192*32/-1", "8192*8192*32");
        givesBeyond("8192*8192*32%-1", "0");
        C.says(20, "by 0 they give 0;");
        gives("5/0", 0, "5%0", 0, "0/0", 0, "5/0+7", 7, "7+5%0", 7, "9/(d-1)", 0, "t%(s-20)", 0, "-5/0+1", 1);
        C.says(20, "| & < = > ! give 1, 0;");
        gives("1|0", 1, "0|0", 0, "0|7", 1, "5|9", 1, "2&3", 1, "2&0", 0, "0&2", 0, "0&0", 0, "5|0", 1, "5", 5, "-1|0", 1, "-1&-2", 1, "!-3", 0);
        gives("1<2", 1, "2<1", 0, "2<2", 0, "2=2", 1, "2=3", 0, "3=2", 0, "3>2", 1, "2>3", 0, "2>2", 0, "-1<0", 1, "0>-1", 1);
        gives("1|1&0", 1, "0&1|1", 1, "(1|1)&0", 0, "1&0|0&1", 0, "1+1=2&3", 1, "1+2<4", 1, "0|2<1", 0, "2|0<1", 1, "1=1+1", 0);
        C.says(20, "all is worked out.");
        gives("1|5/0", 1, "0&5/0", 0, "0&1/0|6>5", 1, "1?2;5/0", 2);
        C.says(20, "(what counts if the first is not 0)");
        gives("0|1?8", 8, "0|0?8;9", 9, "2>1?8", 8, "1&0|1?8", 8, "!0?!0", 1);
        gives("1?8", 8, "-1?8", 8, "2?0", 0, "2?0;9", 0, "d=1?50;60", 50, "d=2?50;60", 60);
        C.says(20, "The first LINE without a first E, or whose first E is not 0, counts; none: 0.");
        gives("0?8", 0, "0?8;9", 9, "0?8;0?7;6", 6, "2?8;1", 8, "1;2", 1, "0;2", 0, "0?8;0?7", 0, "0?8;1?7;6", 7, "0?8;5;1?7", 5, "0?1;0?2;0?3;0?4;5?6", 6);
    }

    public static void main(String[] args) {
        tape();
        whichText();
        grammar();
        values();
        C.end();
    }
}
