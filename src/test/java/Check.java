/** Counts what is not as due and prints it. */
final class Check {
    private int wrong = 0;
    private int made = 0;

    void due(String call, long got, long want) {
        made++;
        if (got == want) return;
        wrong++;
        if (wrong <= 20) System.out.println(call + " answered " + got + ", due is " + want);
    }

    void holds(String what, boolean is) {
        due(what, is ? 1 : 0, 1);
    }

    int wrong() {
        return wrong;
    }

    /** Feeds a text to the tape and takes it as text which: what text() answers. */
    static int take(FitOnDay x, int which, String text) {
        for (int i = 0; i < text.length(); i++) x.feed(1, text.charAt(i));
        return x.text(which);
    }

    void end() {
        System.out.println(made + " checks, " + wrong + " not as due");
        if (made == 0 || wrong != 0) System.exit(1);
    }
}
