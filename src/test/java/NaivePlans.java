import java.util.ArrayList;
import java.util.List;

/** The kinds as Java classes, their acts as Java methods: Java itself says which body runs. */
final class NaivePlans {
    static final List<Class<?>> CLASSES = List.of(Plan.class, Even.class, Build.class, Hard.class, Best.class,
            Feel.class, Told.class, Rested.class);

    static Plan of(int kind, int n) {
        Plan p = List.of(new Plan(), new Even(), new Build(), new Hard(), new Best(), new Feel(), new Told(),
                new Rested()).get(kind);
        p.n = n;
        return p;
    }

    interface Works {
        int ran(int body);
        int number();
        default int works(int x) { ran(1); return x + number(); }
    }

    interface Tells {
        int ran(int body);
        int rests(int x);
        int counts(int x);
        default int tells(int x) { ran(2); return rests(x) - counts(1); }
    }

    static class Plan implements Works, Tells {
        int n;
        final List<Integer> trace = new ArrayList<>();
        int kind() { return CLASSES.indexOf(getClass()); }
        public int number() { return n; }
        public int ran(int body) { trace.add(body); return body; }
        public int rests(int x) { ran(10); return works(x) * 2; }
        public int counts(int x) { ran(11); return x ^ n; }
    }

    static class Even extends Plan {
        @Override public int works(int x) { ran(20); return super.works(x) + 3; }
    }

    static class Build extends Plan {
        @Override public int rests(int x) { ran(30); return -super.rests(x); }
    }

    static class Hard extends Build {
        @Override public int counts(int x) { ran(40); return super.counts(x) * 3; }
        @Override public int works(int x) { ran(41); return super.works(x + 1); }
    }

    static class Best extends Plan {
        @Override public int counts(int x) { ran(50); return super.counts(x) - works(2); }
    }

    static class Feel extends Even {
        @Override public int tells(int x) { ran(60); return super.tells(x) ^ 5; }
    }

    static class Told extends Plan {
        @Override public int works(int x) { ran(70); return super.works(x) * 2; }
    }

    static class Rested extends Hard {
        @Override public int rests(int x) { ran(80); return super.rests(x) + counts(2); }
        @Override public int tells(int x) { ran(81); return super.tells(x) - 1; }
    }
}
