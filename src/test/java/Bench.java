import java.util.List;
import java.util.function.Consumer;
import java.util.function.Function;

/** One AreaCore under test, with the answers that are due; every wrong one is printed and counted. */
final class Bench {
    /** Of a bench that is ready: where traps and interrupts lead. */
    static final int TABLE = 100;
    static final int OTHER = 140;

    /** The addresses where ranges of a busy bench begin and end, and some others. */
    static final int[] EDGES = {0, 40, 60, 200, 203, 210, 213, 220, 223, 230, 233, 300, 512};

    static final int D = 0;
    static final int A = 1;
    static final int RUNS = 0;
    static final int PC = 1;
    static final int FREE = 2;
    static final int LAST = 3;
    static final int LINK = 4;
    static final int STATE = 5;
    static final int PRIORITY = 6;
    static final int ENABLED = 7;
    static final int TIME = 8;
    static final int PENDING = 9;
    static final int TRAPS = 10;
    static final int LATEST = 11;
    static final int TAKEN = 12;

    private static int wrong = 0;

    final Recorder x = new Recorder();
    private final String name;

    Bench(String name) {
        this.name = name;
    }

    /** A bench with a pool of n areas (LAST 31: never DRAINED), TABLE 100 and OTHER 140. */
    static Bench ready(String name, int n) {
        Bench bench = new Bench(name);
        bench.x.pool(n, 31);
        bench.x.tables(TABLE, OTHER);
        return bench;
    }

    /** A bench that runs, with nothing that is 0: ranges, timer, lists, STATE, PENDING, a trap. */
    static Bench busy(String name) {
        Bench b = ready(name, 10).filled();
        b.x.range(0, 0, 200, 203, 1);
        b.x.range(0, 1, 210, 213, 2);
        b.x.range(0, 2, 0, 40, 0);
        b.x.range(1, 0, 220, 223, 2);
        b.x.range(1, 1, 230, 233, 3);
        b.x.range(1, 2, 0, 60, 1);
        b.x.guard(true);
        b.x.request(14);
        b.words(0, ins(25, 9), ins(29, 1), ins(27, 5), ins(21, 1), ins(30, 1), ins(18, 0));
        b.words(TABLE + 24, ins(26, 0)).words(OTHER + 4 * 14, ins(26, 0));
        b.x.start(0, 2, true);
        b.run(9, 9);
        b.x.request(3);
        b.x.timer(17, 6);
        b.look(STATE, 1 + 4 + 8);
        b.look(PRIORITY, 9);
        b.look(TAKEN, 1);
        b.trapped(6, 5, 1);
        b.lists(8, 2);
        return b;
    }

    static int ins(int op, int a, int b, int c, int i) {
        return op | a << 5 | b << 8 | c << 11 | i << 16;
    }

    static int ins(int op, int i) {
        return ins(op, 0, 0, 0, i);
    }

    static int area(int k) {
        return 256 + 8 * (k - 1);
    }

    /** Ends the test program: exit code 1 if there was a wrong answer. */
    static void end() {
        System.out.println(wrong == 0 ? "all answers are as due" : wrong + " answers are not as due");
        if (wrong != 0) {
            System.exit(1);
        }
    }

    void due(String call, long got, long want) {
        if (got != want) {
            wrong++;
            System.out.println(name + ": " + call + " answered " + got + ", due is " + want);
        }
    }

    void due(String call, boolean got, boolean want) {
        due(call, got ? 1 : 0, want ? 1 : 0);
    }

    void throwing(String call, Class<? extends RuntimeException> want, Runnable doing) {
        String got = "nothing";
        try {
            doing.run();
        } catch (RuntimeException e) {
            got = e.getClass().getName();
        }
        if (!got.equals(want.getName())) {
            wrong++;
            System.out.println(name + ": " + call + " threw " + got + ", due is " + want.getName());
        }
    }

    Bench words(int at, int... words) {
        for (int k = 0; k < words.length; k++) {
            x.put(at + k, words[k]);
        }
        return this;
    }

    /** Starts at 0, at this level and not ENABLED, and makes n steps. */
    Bench go(int level, int n) {
        x.start(0, level, false);
        run(n, n);
        return this;
    }

    void run(int n, int want) {
        due("run(" + n + ")", x.run(n), want);
    }

    void look(int which, int want) {
        due("look(" + which + ")", x.look(which), want);
    }

    /** Looks at LATEST and TRAPS. */
    void trapped(int trapClass, int number, int howMany) {
        look(LATEST, 16 * trapClass + (number & 15));
        look(TRAPS, howMany);
    }

    void untrapped() {
        look(LATEST, AreaCore.NONE);
        look(TRAPS, 0);
    }

    void register(int of, int k, int want) {
        due("register(" + of + ", " + k + ")", x.register(of, k), want);
    }

    void word(int address, int want) {
        due("word(" + address + ")", x.word(address), want);
    }

    void area(int k, int... want) {
        for (int at = 0; at < want.length; at++) {
            word(area(k) + at, want[at]);
        }
    }

    void lists(int free, int link) {
        due("list(0)", x.list(0), free);
        due("list(1)", x.list(1), link);
    }

    /** By a program at 448; A0 becomes 511. */
    void setD(int k, int v) {
        words(448, ins(9, 511), ins(13, k, 0, 0, 0));
        runAside(v, 2);
    }

    /** By a program at 448; A0 becomes 511 (but for k 0) and D0 v. */
    void setA(int k, int v) {
        words(448, ins(9, 511), ins(13, 0), ins(11, k, 0, 0, 0));
        runAside(v, 3);
    }

    private void runAside(int v, int steps) {
        x.put(511, v);
        x.start(448, 2, false);
        x.run(steps);
        x.halt();
    }

    /** D0 .. D7 become 10 .. 17 and A0 .. A7 20 .. 27, by a program at 448. */
    Bench filled() {
        for (int k = 0; k < 8; k++) {
            words(448 + 2 * k, ins(1, k, 0, 0, 10 + k), ins(9, k, 0, 0, 20 + k));
        }
        x.start(448, 2, false);
        run(16, 16);
        x.halt();
        return this;
    }

    /** It runs from pc on with this STATE word, with PRIORITY 0 and not ENABLED. */
    Bench enter(int pc, int state) {
        return enter(pc, state, 0, false);
    }

    /**
     * It runs from pc on with these, by a program at 470 that calls twice and comes back to what
     * was put into the two areas; they are the first of the FREE list, and are so again.
     */
    Bench enter(int pc, int state, int priority, boolean enabled) {
        words(470, ins(21, 1), ins(21, 1), ins(9, 7, 0, 0, 474), ins(22, 0));
        words(474, ins(9, 7, 0, 0, pc), ins(26, 0));
        x.start(470, 2, false);
        run(3, 3);
        int second = x.look(LINK) & 31;
        int first = x.word(area(second)) & 31;
        x.put(area(second), first + 32 + 256 * priority + (enabled ? 4096 : 0));
        x.put(area(first) + 1, state);
        run(3, 3);
        look(PC, pc);
        look(STATE, state);
        look(PRIORITY, priority);
        look(ENABLED, enabled ? 1 : 0);
        return this;
    }

    /** Makes one step; it must change what is due (and TIME), and nothing else that can be seen. */
    Bench step(String what, Consumer<Seen> due) {
        return changes(what, () -> run(1, 1), seen -> due.accept(seen.set(TIME, seen.looks[TIME] + 1)));
    }

    /** Does it; that must change what is due, and nothing else that can be seen. */
    Bench changes(String what, Runnable doing, Consumer<Seen> due) {
        Seen want = Seen.of(x);
        due.accept(want);
        doing.run();
        return seen(what, want);
    }

    /** All that can be seen must be so. */
    Bench seen(String what, Seen want) {
        String differs = want.differs(Seen.of(x));
        if (!differs.isEmpty()) {
            wrong++;
            System.out.println(name + ", " + what + ":" + differs);
        }
        return this;
    }

    /**
     * Makes a call that must answer so, or throw what bears this name, and change nothing: neither
     * what can be seen, nor what shows later at the edges of ranges.
     */
    void refused(String call, Function<Recorder, Object> doing, String due, int... edges) {
        Seen before = Seen.of(x);
        List<Integer> sequel = Sequel.of(x, edges);
        String got = answer(doing);
        if (!got.equals(due)) {
            wrong++;
            System.out.println(name + ", " + call + ": answered " + got + ", due is " + due);
        }
        seen(call, before);
        due(call + " leaves what shows later", sequel.equals(Sequel.of(x, edges)), true);
    }

    private String answer(Function<Recorder, Object> doing) {
        try {
            return String.valueOf(doing.apply(x));
        } catch (RuntimeException e) {
            return e.getClass().getSimpleName();
        }
    }
}
