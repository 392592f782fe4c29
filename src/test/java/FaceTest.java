import java.lang.reflect.Constructor;
import java.lang.reflect.Method;
import java.lang.reflect.Modifier;
import java.util.Arrays;
import java.util.Set;
import java.util.TreeSet;
import java.util.function.Supplier;

/** The public face is the document's, and no call of it throws. */
public final class FaceTest {
    private static final int[] ODD = {Integer.MIN_VALUE, -1001, -1, 0, 1, 2, 5, 6, 11, 59, 60, 119, 120, 999, 1119, 2000, 4119, 12012, Integer.MAX_VALUE};
    private static final String[] FACE = {"work(int)", "mend(int,int,int)", "runner(int,int)", "plan(int,int)",
        "weeks(int,int,int,int)", "shape(int,int,int)", "of(int)", "fit(int,int)", "points(int,int,int)",
        "counts(int,int)", "forget()", "worth(int,int)", "gained(int)", "best(int,int,int)", "pays(int)", "led(int)",
        "taper(int,int)", "feed(int,int)", "text(int)", "risk(int,int)", "lost(int)", "mean(int)", "judge(int)",
        "feel(int,int)", "test(int,int)", "who(int)", "group(int,int)", "alike(int)", "cold(int,int)",
        "lines(int,int,int)", "years(int,int,int)", "undo()", "redo()", "body(int)", "act(int,int,int)", "trace(int)",
        "keep(int,int)", "row(int,int,int)", "put(int,int,long)", "element(int,int)", "shift(int,int,int,int,int)",
        "taken(int,int)", "count(int)"};
    private static final Check C = new Check();

    private static String called(Method m) {
        StringBuilder name = new StringBuilder(m.getName()).append('(');
        for (Class<?> p : m.getParameterTypes()) name.append(name.charAt(name.length() - 1) == '(' ? "" : ",").append(p);
        return name.append(')').toString();
    }

    private static void face() {
        Set<String> due = new TreeSet<>(Arrays.asList(FACE));
        Set<String> is = new TreeSet<>();
        Set<String> others = new TreeSet<>();
        for (Method m : FitOnDay.class.getDeclaredMethods()) {
            boolean isPublic = Modifier.isPublic(m.getModifiers());
            if (isPublic) is.add(called(m));
            else others.add(m.getName());
            if (!isPublic) C.holds(m + " is private", Modifier.isPrivate(m.getModifiers()));
            if (isPublic) C.holds(m + " answers as due", m.getReturnType() == (m.getName().equals("element") ? long.class : int.class));
        }
        C.holds("the face is " + is, is.equals(due));
        for (String call : due) {
            String name = call.substring(0, call.indexOf('('));
            C.holds("no private " + name, !others.contains(name));
            for (Class<?> inside : FitOnDay.class.getDeclaredClasses()) {
                for (Method m : inside.getDeclaredMethods()) C.holds(m + " bears the name of a public one", !m.getName().equals(name));
            }
        }
        Constructor<?>[] makers = FitOnDay.class.getDeclaredConstructors();
        C.due("constructors", makers.length, 1);
        C.holds("public", Modifier.isPublic(makers[0].getModifiers()) && makers[0].getParameterCount() == 0);
        C.due("constants", FitOnDay.class.getFields().length, 5);
        C.due("BAD", FitOnDay.BAD, -1);
        C.due("NOT", FitOnDay.NOT, -2);
        C.due("FULL", FitOnDay.FULL, -3);
        C.due("STATE", FitOnDay.STATE, -5);
        C.due("VOID", FitOnDay.VOID, -2000000000);
    }

    /** Calls with every row of odd arguments, so many an object that it is not used for more than 512 calls. */
    private static void callAll(Supplier<FitOnDay> maker, Method m) {
        Class<?>[] kinds = m.getParameterTypes();
        int rows = 1;
        for (int i = 0; i < kinds.length; i++) rows *= ODD.length;
        Object[] arguments = new Object[kinds.length];
        // of five arguments every row would be millions: a stride that meets all values of each
        int stride = kinds.length > 4 ? 101 : kinds.length > 3 ? 7 : 1;
        FitOnDay x = maker.get();
        int calls = 0;
        for (int row = 0; row < rows; row += stride) {
            if (++calls % 256 == 0) x = maker.get();
            int left = row;
            for (int i = 0; i < kinds.length; i++) {
                int odd = ODD[left % ODD.length];
                if (kinds[i] == long.class) arguments[i] = odd * 0x100000001L;
                else arguments[i] = odd;
                left /= ODD.length;
            }
            try {
                m.invoke(x, arguments);
            } catch (ReflectiveOperationException e) {
                C.holds(called(m) + " throws with " + Arrays.toString(arguments) + ": " + e.getCause(), false);
                return;
            }
        }
        C.holds(called(m), true);
    }

    private static void neverThrows() {
        for (Method m : FitOnDay.class.getDeclaredMethods()) {
            if (!Modifier.isPublic(m.getModifiers())) continue;
            callAll(FitOnDay::new, m);
            callAll(RefusalsTest::full, m);
        }
    }

    public static void main(String[] args) {
        face();
        neverThrows();
        C.end();
    }
}
