/** Texts by descent through the grammar; faults by trying whether anything makes a text of what is ahead. */
final class NaiveText {
    private static final String NAMES = "tswjdlg";

    private final String text;
    private final int[] names;
    private int at = 0;
    private int open = 0;

    private NaiveText(String text, int[] names) {
        this.text = text;
        this.names = names;
    }

    private static final class Fault extends RuntimeException {
        private static final long serialVersionUID = 1;
    }

    static int given(String text, int[] names) { return new NaiveText(text, names).all(); }

    private static boolean isText(String text) {
        try {
            given(text, new int[7]);
            return true;
        } catch (Fault f) {
            return false;
        }
    }

    private static boolean goesOn(String start) {
        for (String part : new String[] {"", "1"}) {
            StringBuilder whole = new StringBuilder(start).append(part);
            for (int closes = 0; closes <= 6; closes++) {
                if (isText(whole.toString())) return true;
                whole.append(')');
            }
        }
        return false;
    }

    /** -1: none. */
    static int fault(String text) {
        if (isText(text)) return -1;
        for (int i = 0; i < text.length(); i++) if (!goesOn(text.substring(0, i + 1))) return i;
        return text.length();
    }

    private boolean next(String signs) {
        return at < text.length() && signs.indexOf(text.charAt(at)) >= 0;
    }

    private int all() {
        boolean found = false;
        int answer = 0;
        while (true) {
            int first = e();
            boolean counts = true;
            if (next("?")) {
                at++;
                counts = first != 0;
                first = e();
            }
            if (counts && !found) {
                found = true;
                answer = first;
            }
            if (at == text.length()) return answer;
            if (!next(";")) throw new Fault();
            at++;
        }
    }

    private int e() {
        int v = a();
        while (next("|")) {
            at++;
            int w = a();
            v = v != 0 | w != 0 ? 1 : 0;
        }
        return v;
    }

    private int a() {
        int v = b();
        while (next("&")) {
            at++;
            int w = b();
            v = v != 0 & w != 0 ? 1 : 0;
        }
        return v;
    }

    private int b() {
        int v = s();
        if (!next("<=>")) return v;
        char how = text.charAt(at++);
        int w = s();
        return (how == '<' ? v < w : how == '=' ? v == w : v > w) ? 1 : 0;
    }

    private int s() {
        int v = p();
        while (next("+-")) {
            boolean less = text.charAt(at++) == '-';
            int w = p();
            v = less ? v - w : v + w;
        }
        return v;
    }

    private int p() {
        int v = o();
        while (next("*/%")) {
            char how = text.charAt(at++);
            int w = o();
            if (how == '*') v *= w;
            else if (w == 0) v = 0;
            else v = how == '/' ? v / w : v % w;
        }
        return v;
    }

    private int o() {
        if (next("0123456789")) {
            int v = 0;
            for (int i = 0; i < 4 && next("0123456789"); i++) v = 10 * v + text.charAt(at++) - '0';
            return v;
        }
        if (next(NAMES)) return names[NAMES.indexOf(text.charAt(at++))];
        if (!next("!-(")) throw new Fault();
        if (++open > 6) throw new Fault();
        char how = text.charAt(at++);
        int v;
        if (how == '(') {
            v = e();
            if (!next(")")) throw new Fault();
            at++;
        } else {
            v = o();
            v = how == '-' ? -v : v == 0 ? 1 : 0;
        }
        open--;
        return v;
    }
}
