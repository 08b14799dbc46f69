/** One AreaCore under test, with the answers that are due; every wrong one is printed and counted. */
final class Bench {
    static final int D = 0;
    static final int A = 1;
    static final int RUNS = 0;
    static final int PC = 1;
    static final int FREE = 2;
    static final int LAST = 3;
    static final int LINK = 4;
    static final int STATE = 5;
    static final int PRIORITY = 6;
    static final int ENABLED = 7;
    static final int TIME = 8;
    static final int PENDING = 9;
    static final int TRAPS = 10;
    static final int LATEST = 11;
    static final int TAKEN = 12;

    private static int wrong = 0;

    final AreaCore x = new AreaCore();
    private final String name;

    Bench(String name) {
        this.name = name;
    }

    /** A bench with a pool of n areas (LAST 31: never DRAINED), TABLE 100 and OTHER 140. */
    static Bench ready(String name, int n) {
        Bench bench = new Bench(name);
        bench.x.pool(n, 31);
        bench.x.tables(100, 140);
        return bench;
    }

    static int ins(int op, int a, int b, int c, int i) {
        return op | a << 5 | b << 8 | c << 11 | i << 16;
    }

    static int ins(int op, int i) {
        return ins(op, 0, 0, 0, i);
    }

    static int area(int k) {
        return 256 + 8 * (k - 1);
    }

    /** Ends the test program: exit code 1 if there was a wrong answer. */
    static void end() {
        System.out.println(wrong == 0 ? "all answers are as due" : wrong + " answers are not as due");
        if (wrong != 0) {
            System.exit(1);
        }
    }

    void due(String call, long got, long want) {
        if (got != want) {
            wrong++;
            System.out.println(name + ": " + call + " answered " + got + ", due is " + want);
        }
    }

    void due(String call, boolean got, boolean want) {
        due(call, got ? 1 : 0, want ? 1 : 0);
    }

    void throwing(String call, Class<? extends RuntimeException> want, Runnable doing) {
        String got = "nothing";
        try {
            doing.run();
        } catch (RuntimeException e) {
            got = e.getClass().getName();
        }
        if (!got.equals(want.getName())) {
            wrong++;
            System.out.println(name + ": " + call + " threw " + got + ", due is " + want.getName());
        }
    }

    Bench words(int at, int... words) {
        for (int k = 0; k < words.length; k++) {
            x.put(at + k, words[k]);
        }
        return this;
    }

    /** Starts at 0, at this level and not ENABLED, and makes n steps. */
    Bench go(int level, int n) {
        x.start(0, level, false);
        run(n, n);
        return this;
    }

    void run(int n, int want) {
        due("run(" + n + ")", x.run(n), want);
    }

    void look(int which, int want) {
        due("look(" + which + ")", x.look(which), want);
    }

    /** Looks at LATEST and TRAPS. */
    void trapped(int trapClass, int number, int howMany) {
        look(LATEST, 16 * trapClass + (number & 15));
        look(TRAPS, howMany);
    }

    void untrapped() {
        look(LATEST, AreaCore.NONE);
        look(TRAPS, 0);
    }

    void register(int of, int k, int want) {
        due("register(" + of + ", " + k + ")", x.register(of, k), want);
    }

    void word(int address, int want) {
        due("word(" + address + ")", x.word(address), want);
    }

    void area(int k, int... want) {
        for (int at = 0; at < want.length; at++) {
            word(area(k) + at, want[at]);
        }
    }

    void lists(int free, int link) {
        due("list(0)", x.list(0), free);
        due("list(1)", x.list(1), link);
    }

    /** By a program at 448; A0 becomes 511. */
    void setD(int k, int v) {
        words(448, ins(9, 511), ins(13, k, 0, 0, 0));
        runAside(v, 2);
    }

    /** By a program at 448; A0 becomes 511 (but for k 0) and D0 v. */
    void setA(int k, int v) {
        words(448, ins(9, 511), ins(13, 0), ins(11, k, 0, 0, 0));
        runAside(v, 3);
    }

    private void runAside(int v, int steps) {
        x.put(511, v);
        x.start(448, 2, false);
        x.run(steps);
        x.halt();
    }

    /** What the face shows of the state, but for most of the words. */
    long shown() {
        long sum = 0;
        for (int which = 0; which <= 12; which++) {
            sum = sum * 1000003 + x.look(which);
        }
        for (int k = 0; k < 16; k++) {
            sum = sum * 1000003 + x.register(k >> 3, k & 7);
        }
        for (int k = 0; k < 16; k++) {
            sum = sum * 1000003 + x.word(k);
            sum = sum * 1000003 + x.word(256 + k);
        }
        return (sum * 1000003 + x.list(0)) * 1000003 + x.list(1);
    }
}
