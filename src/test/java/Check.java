import java.util.function.IntUnaryOperator;

/** Counts what is not as due and prints it, with the words of the document that ask for it. */
final class Check {
    private int wrong = 0;
    private int made = 0;
    private int madeBySaying = 1;
    private String saying = "";

    /** The checks from here on hold the program to these words, which stand with that promise or in the terms. */
    void says(int promise, String words) {
        endSaying();
        madeBySaying = 0;
        saying = "promise " + promise + ", \"" + words + "\": ";
    }

    private void endSaying() {
        if (madeBySaying > 0) return;
        wrong++;
        System.out.println(saying + "nothing is checked");
    }

    void due(String call, long got, long want) {
        made++;
        madeBySaying++;
        if (got == want) return;
        wrong++;
        if (wrong <= 20) System.out.println(saying + call + " answered " + got + ", due is " + want);
    }

    void holds(String what, boolean is) {
        due(what, is ? 1 : 0, 1);
    }

    /** One answer is due for each of the arguments. */
    void each(String call, IntUnaryOperator answer, long want, int... arguments) {
        for (int a : arguments) due(call + " with " + a, answer.applyAsInt(a), want);
    }

    int wrong() {
        return wrong;
    }

    /** Feeds a text to the tape and takes it as text which: what text() answers. */
    static int take(FitOnDay x, int which, String text) {
        feed(x, text);
        return x.text(which);
    }

    static void feed(FitOnDay x, String text) {
        for (int from = 0; from < text.length(); from += 4) {
            int n = Math.min(4, text.length() - from);
            int v = 0;
            for (int i = 0; i < n; i++) v |= text.charAt(from + i) << 8 * i;
            x.feed(n, v);
        }
    }

    void end() {
        endSaying();
        System.out.println(made + " checks, " + wrong + " not as due");
        if (made == 0 || wrong != 0) System.exit(1);
    }
}
