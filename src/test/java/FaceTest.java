import java.lang.reflect.Constructor;
import java.lang.reflect.Method;
import java.lang.reflect.Modifier;
import java.util.Arrays;
import java.util.Set;
import java.util.TreeSet;

/** The public face is the document's, and no call of it throws or changes an answer by what is far off. */
public final class FaceTest {
    private static final int[] ODD = {Integer.MIN_VALUE, -1001, -1, 0, 1, 2, 5, 6, 11, 59, 60, 119, 120, 999, 1119, 2000, 4119, 12012, Integer.MAX_VALUE};
    private static final String[] FACE = {"work(int)", "mend(int,int,int)", "runner(int,int)", "plan(int,int)",
        "weeks(int,int,int,int)", "shape(int,int,int)", "of(int)", "fit(int,int)", "points(int,int,int)",
        "counts(int,int)", "forget()", "worth(int,int)", "gained(int)", "best(int,int,int)", "pays(int)", "led(int)",
        "taper(int,int)", "feed(int,int)", "text(int)", "risk(int,int)", "lost(int)", "mean(int)", "judge(int)",
        "feel(int,int)", "test(int,int)", "who(int)", "group(int,int)", "alike(int)", "cold(int,int)",
        "lines(int,int,int)", "years(int,int,int)", "undo()", "redo()", "body(int)", "act(int,int,int)", "trace(int)",
        "keep(int,int)", "row(int,int,int)", "put(int,int,long)", "element(int,int)", "shift(int,int,int,int,int)",
        "taken(int,int)", "count(int)"};
    private static final Check C = new Check();

    private static String called(Method m) {
        StringBuilder name = new StringBuilder(m.getName()).append('(');
        for (Class<?> p : m.getParameterTypes()) name.append(name.charAt(name.length() - 1) == '(' ? "" : ",").append(p);
        return name.append(')').toString();
    }

    private static void face() {
        Set<String> due = new TreeSet<>(Arrays.asList(FACE));
        Set<String> is = new TreeSet<>();
        Set<String> others = new TreeSet<>();
        for (Method m : FitOnDay.class.getDeclaredMethods()) {
            boolean isPublic = Modifier.isPublic(m.getModifiers());
            if (isPublic) is.add(called(m));
            else others.add(m.getName());
            if (!isPublic) C.holds(m + " is private", Modifier.isPrivate(m.getModifiers()));
            if (isPublic) C.holds(m + " answers as due", m.getReturnType() == (m.getName().equals("element") ? long.class : int.class));
        }
        C.holds("the face is " + is, is.equals(due));
        for (String call : due) {
            String name = call.substring(0, call.indexOf('('));
            C.holds("no private " + name, !others.contains(name));
            for (Class<?> inside : FitOnDay.class.getDeclaredClasses()) {
                for (Method m : inside.getDeclaredMethods()) C.holds(m + " bears the name of a public one", !m.getName().equals(name));
            }
        }
        Constructor<?>[] makers = FitOnDay.class.getDeclaredConstructors();
        C.due("constructors", makers.length, 1);
        C.holds("public", Modifier.isPublic(makers[0].getModifiers()) && makers[0].getParameterCount() == 0);
        C.due("constants", FitOnDay.class.getFields().length, 5);
        C.due("BAD", FitOnDay.BAD, -1);
        C.due("NOT", FitOnDay.NOT, -2);
        C.due("FULL", FitOnDay.FULL, -3);
        C.due("STATE", FitOnDay.STATE, -5);
        C.due("VOID", FitOnDay.VOID, -2000000000);
    }

    /** Calls with every row of odd arguments. */
    private static void callAll(FitOnDay x, Method m) {
        Class<?>[] kinds = m.getParameterTypes();
        int rows = 1;
        for (int i = 0; i < kinds.length; i++) rows *= ODD.length;
        Object[] arguments = new Object[kinds.length];
        // of five arguments every row would be millions: a stride that meets all values of each
        int stride = kinds.length > 4 ? 101 : 1;
        for (int row = 0; row < rows; row += stride) {
            int left = row;
            for (int i = 0; i < kinds.length; i++) {
                int odd = ODD[left % ODD.length];
                if (kinds[i] == long.class) arguments[i] = odd * 0x100000001L;
                else arguments[i] = odd;
                left /= ODD.length;
            }
            try {
                m.invoke(x, arguments);
            } catch (ReflectiveOperationException e) {
                C.holds(called(m) + " throws with " + Arrays.toString(arguments) + ": " + e.getCause(), false);
                return;
            }
        }
        C.holds(called(m), true);
    }

    private static FitOnDay full() {
        FitOnDay x = new FitOnDay();
        for (int i = 0; i < 5; i++) {
            x.work(20000 * i + 501 * i + 7);
            x.runner(1000 * (100 + 150 * i) + 1 + 200 * i, 500 + 250 * i);
            x.test(25 * i, 100 * i);
            x.test(10 * i, 90 * i);
            x.row(i, i, 60);
        }
        x.shape(11, 33, 119);
        for (int i = 0; i < 4; i++) x.counts(39 * i, 9 - i);
        for (int which = 1; which <= 3; which++) Check.take(x, which, "t>s?w*j;d%l+g/w");
        for (int i = 0; i < 50; i++) x.body(i % 8);
        x.keep(5, 7);
        return x;
    }

    private static void neverThrows() {
        for (Method m : FitOnDay.class.getDeclaredMethods()) {
            if (!Modifier.isPublic(m.getModifiers())) continue;
            callAll(new FitOnDay(), m);
            callAll(full(), m);
        }
    }

    /** What is refused changes nothing: the same questions have the same answers behind it. */
    private static void refusalsChangeNothing() {
        FitOnDay x = full();
        x.plan(3, 2);
        x.plan(4, 2);
        x.undo();
        long[] before = asked(x);
        x.work(5);
        x.work(-1);
        x.mend(0, 0, 5);
        x.mend(1, 0, 100);
        x.runner(1001, 1000);
        x.plan(4, 6);
        x.plan(120, 1);
        x.weeks(0, 1, 0, 5);
        x.weeks(0, 5, 0, 5);
        x.weeks(0, 0, 0, 61);
        x.shape(16, 11, 100);
        x.shape(11, 11, 5004);
        x.counts(39, 5);
        x.counts(50, 5);
        x.feed(5, 0);
        x.text(4);
        x.lost(61);
        x.feel(5, 100);
        x.feel(0, 100050);
        x.test(0, 0);
        x.body(8);
        x.body(0);
        x.keep(0, 50);
        x.keep(6, -1);
        x.row(0, 5, 5);
        x.row(0, 0, 61);
        x.row(0, 0, -1);
        x.put(5, 0, 1);
        x.put(0, 60, 1);
        x.shift(0, 0, 1, 0, 5);
        x.shift(0, 0, 0, 30, 31);
        long[] behind = asked(x);
        for (int i = 0; i < before.length; i++) C.due("question " + i, behind[i], before[i]);
        C.due("redo stays", x.redo(), 0);
    }

    private static long[] asked(FitOnDay x) {
        long[] answers = new long[200];
        int n = 0;
        for (int what = 0; what < 8; what++) answers[n++] = x.count(what);
        for (int day = 0; day < 120; day += 5) answers[n++] = x.of(day);
        for (int r = 0; r < 5; r++) {
            answers[n++] = x.fit(1000 * r + 117, 1);
            answers[n++] = x.fit(1000 * r + 117, 2);
            answers[n++] = x.mean(1000 * r + 117);
            answers[n++] = x.gained(r);
            answers[n++] = x.who(r);
            answers[n++] = x.judge(r);
        }
        for (int w = 0; w < 6; w++) answers[n++] = x.points(2, w, 1);
        for (int shelf = 0; shelf < 6; shelf++) {
            answers[n++] = x.element(shelf, 59);
            answers[n++] = x.taken(shelf, 0);
        }
        return answers;
    }

    public static void main(String[] args) {
        face();
        neverThrows();
        refusalsChangeNothing();
        C.end();
    }
}
