/** Promises 9 (start), 10 (halt), 11 (run), 12 (register) and 14 (look). */
public final class RunTest {
    private static final int WAIT = Bench.ins(18, 0);

    public static void main(String[] args) {
        starts();
        startLeavesTheRest();
        wrongStarts();
        halts();
        runs();
        wrongRuns();
        registers();
        looks();
        Bench.end();
    }

    private static void starts() {
        int[] pcs = {0, 5, 511, 512, -1, Integer.MIN_VALUE, Integer.MAX_VALUE};
        for (int pc : pcs) {
            for (int level = 0; level <= 2; level++) {
                Bench b = Bench.ready("start", 2);
                b.x.start(pc, level, level == 1);
                b.look(Bench.RUNS, 1);
                b.look(Bench.PC, pc);
                b.look(Bench.STATE, level);
                b.look(Bench.PRIORITY, 0);
                b.look(Bench.ENABLED, level == 1 ? 1 : 0);
                b.look(Bench.TIME, 0);
            }
        }
    }

    private static void startLeavesTheRest() {
        Bench b = Bench.ready("start again", 5);
        b.words(0, Bench.ins(1, 4, 0, 0, 11), Bench.ins(25, 9), Bench.ins(29, 1), Bench.ins(21, 5));
        b.go(2, 4);
        b.look(Bench.STATE, 2 + 4 + 8);
        b.look(Bench.PRIORITY, 9);
        b.x.request(2);
        b.x.halt();
        b.x.start(7, 0, false);
        b.look(Bench.STATE, 0);
        b.look(Bench.PRIORITY, 0);
        b.look(Bench.ENABLED, 0);
        b.look(Bench.PC, 7);
        b.look(Bench.PENDING, 4);
        b.look(Bench.TIME, 4);
        b.look(Bench.LINK, 2 + 32 + 256 * 9 + 4096);
        b.look(Bench.FREE, 3);
        b.register(Bench.D, 4, 11);
        b.register(Bench.A, 7, 4);
    }

    private static void wrongStarts() {
        Bench b = Bench.ready("wrong start", 2).words(0, WAIT);
        Seen before = Seen.of(b.x);
        int[] levels = {-1, 3, Integer.MIN_VALUE, Integer.MAX_VALUE};
        for (int level : levels) {
            b.throwing("start", IllegalArgumentException.class, () -> b.x.start(5, level, true));
        }
        b.seen("refused", before);
        b.go(1, 2);
        before = Seen.of(b.x);
        b.throwing("start, runs", IllegalStateException.class, () -> b.x.start(5, 2, true));
        b.throwing("start, both", IllegalArgumentException.class, () -> b.x.start(5, 3, true));
        b.seen("refused", before);
    }

    private static void halts() {
        Bench b = Bench.ready("halt", 2).words(0, WAIT);
        b.due("halt()", b.x.halt(), false);
        b.go(1, 2);
        b.due("halt()", b.x.halt(), true);
        b.look(Bench.RUNS, 0);
        b.look(Bench.PC, 0);
        b.look(Bench.STATE, 1);
        Seen before = Seen.of(b.x);
        b.due("halt()", b.x.halt(), false);
        b.run(300, 0);
        b.seen("refused", before);
        b.x.start(0, 0, false);
        b.run(1, 1);
        b.words(0, Bench.ins(31, 0));
        b.due("halt()", b.x.halt(), true);
        b.go(2, 1);
        b.due("halt()", b.x.halt(), false);
    }

    private static void runs() {
        Bench b = Bench.ready("run", 2).words(0, WAIT);
        b.run(0, 0);
        b.run(300, 0);
        b.x.start(0, 2, false);
        b.run(0, 0);
        b.look(Bench.TIME, 0);
        b.run(1, 1);
        b.run(299, 299);
        b.run(300, 300);
        b.look(Bench.TIME, 600);
        b.words(0, Bench.ins(1, 1), Bench.ins(1, 2), Bench.ins(31, 0), Bench.ins(1, 3));
        b.run(300, 3);
        b.look(Bench.TIME, 603);
        b.look(Bench.PC, 2);
        b.look(Bench.RUNS, 0);
        b.register(Bench.D, 0, 2);
        b.run(1, 0);
        b.go(2, 2);
        b.look(Bench.RUNS, 1);
        b.run(1, 1);
        b.look(Bench.RUNS, 0);
    }

    private static void wrongRuns() {
        Bench b = Bench.ready("wrong run", 2).words(0, Bench.ins(2, 1));
        int[] wrong = {-1, 301, Integer.MIN_VALUE, Integer.MAX_VALUE};
        for (int n : wrong) {
            b.throwing("run", IllegalArgumentException.class, () -> b.x.run(n));
        }
        b.x.start(0, 0, false);
        Seen before = Seen.of(b.x);
        for (int n : wrong) {
            b.throwing("run", IllegalArgumentException.class, () -> b.x.run(n));
        }
        b.seen("refused", before);
    }

    private static void registers() {
        Bench b = Bench.ready("registers", 2);
        for (int k = 0; k < 8; k++) {
            b.words(2 * k, Bench.ins(1, k, 0, 0, 10 + k), Bench.ins(9, k, 0, 0, 20 + k));
        }
        b.go(0, 16);
        for (int k = 0; k < 8; k++) {
            b.register(Bench.D, k, 10 + k);
            b.register(Bench.A, k, 20 + k);
        }
        int[][] wrong = {
            {-1, 0}, {2, 0}, {0, -1}, {0, 8}, {1, -1}, {1, 8}, {Integer.MIN_VALUE, 0},
            {0, Integer.MIN_VALUE}, {1, Integer.MAX_VALUE},
        };
        for (int[] one : wrong) {
            b.throwing("register", IndexOutOfBoundsException.class,
                () -> b.x.register(one[0], one[1]));
        }
    }

    private static void looks() {
        Bench b = new Bench("looks");
        b.x.pool(6, 4);
        b.x.tables(100, 140);
        b.words(0, WAIT).words(152, Bench.ins(29, 1), Bench.ins(21, 60));
        b.words(213, Bench.ins(28, 1), Bench.ins(27, 0x7F));
        b.x.request(3);
        b.x.request(1);
        b.x.start(0, 1, true);
        b.run(4, 4);
        int[] due = {1, 214, 3, 4, 34 + 256 * 3, 2 + 4 + 8, 3, 1, 4, 2, 0, -1, 1};
        for (int which = 0; which < due.length; which++) {
            b.look(which, due[which]);
        }
        b.run(1, 1);
        int[] later = {
            1, 112, 5, 4, 36 + 256 * 3, 2, 3, 0, 5, 2, 2, 0x31, 1,
        };
        for (int which = 0; which < later.length; which++) {
            b.look(which, later[which]);
        }
        int[] others = {-1, 13, 14, Integer.MIN_VALUE, Integer.MAX_VALUE};
        for (int which : others) {
            b.look(which, AreaCore.NONE);
        }
        Bench minus = new Bench("looks of -1");
        minus.x.pool(2, 0);
        minus.words(Bench.area(1), -1).words(0, Bench.ins(23, 0), Bench.ins(18, -2));
        minus.go(2, 2);
        minus.look(Bench.FREE, -1);
        minus.look(Bench.PC, -1);
    }
}
