import java.util.function.Function;

/**
 * "A call that answers false or NONE, or throws, changes nothing": every refused call, in a new
 * object, in one that is HALTED and in one that RUNS, with all that can be seen, and all that shows
 * later, as it was.
 */
public final class RefusalTest {
    private static final String ARGUMENT = "IllegalArgumentException";
    private static final String STATE = "IllegalStateException";
    private static final String INDEX = "IndexOutOfBoundsException";
    private static final int LEAST = Integer.MIN_VALUE;
    private static final int MOST = Integer.MAX_VALUE;

    private final Bench bench;

    private RefusalTest(Bench bench) {
        this.bench = bench;
    }

    public static void main(String[] args) {
        for (int state = 0; state <= 2; state++) {
            all(state);
        }
        Bench.end();
    }

    private static Bench bench(int state) {
        if (state == 0) {
            return new Bench("refused by a new one");
        }
        Bench b = Bench.busy(state == 1 ? "refused, HALTED" : "refused, RUNS");
        if (state == 1) {
            b.x.halt();
        }
        return b;
    }

    private static void all(int state) {
        RefusalTest test = new RefusalTest(bench(state));
        test.puts();
        test.pools();
        test.ranges();
        test.timers();
        test.requests(state);
        test.starts();
        test.runs();
        test.registers();
        test.looks();
        if (state == 2) {
            test.whileItRuns();
        } else {
            test.refused("halt()", x -> x.halt(), "false");
        }
    }

    private void refused(String call, Function<Recorder, Object> doing, String due) {
        bench.refused(call, doing, due, 40, 200, 233);
    }

    private void puts() {
        for (int address : new int[] {-1, 512, 513, -256, LEAST, MOST}) {
            refused("put(" + address + ")", x -> x.put(address, 77), "false");
            refused("word(" + address + ")", x -> x.word(address), "0");
        }
    }

    /** With one that RUNS, too: a wrong number is told before that. */
    private void pools() {
        int[][] wrong = {
            {-1, 0}, {25, 0}, {LEAST, 0}, {MOST, 31}, {3, -1}, {3, 32}, {3, LEAST}, {3, MOST}, {25, 32},
        };
        for (int[] one : wrong) {
            refused("pool(" + one[0] + ", " + one[1] + ")", x -> {
                x.pool(one[0], one[1]);
                return "nothing";
            }, ARGUMENT);
        }
    }

    private void ranges() {
        int[][] wrong = {
            {-1, 0, 3}, {2, 0, 3}, {LEAST, 1, 3}, {MOST, 1, 3}, {-1, 3, 3}, {0, -1, 3}, {1, -1, 3},
            {0, 3, 3}, {1, 3, 3}, {0, LEAST, 3}, {1, MOST, 3}, {0, 0, -1}, {0, 0, 4}, {0, 1, -1},
            {0, 1, 4}, {0, 2, -1}, {0, 2, 4}, {1, 0, -1}, {1, 0, 4}, {1, 1, 4}, {1, 2, -1}, {1, 2, 4},
            {1, 1, LEAST}, {0, 0, MOST}, {1, 2, 8},
        };
        for (int[] one : wrong) {
            bench.refused("range(" + one[0] + ", " + one[1] + ", 0, 512, " + one[2] + ")", x -> {
                x.range(one[0], one[1], 0, 512, one[2]);
                return "nothing";
            }, ARGUMENT, Bench.EDGES);
        }
    }

    private void timers() {
        int[][] wrong = {
            {-1, 1}, {-1, 15}, {LEAST, 5}, {1, 0}, {1, 16}, {1, -1}, {1, LEAST}, {1, MOST}, {0, 0},
            {0, 16}, {-1, 0}, {2, 32 + 5},
        };
        for (int[] one : wrong) {
            refused("timer(" + one[0] + ", " + one[1] + ")", x -> {
                x.timer(one[0], one[1]);
                return "nothing";
            }, ARGUMENT);
        }
    }

    private void requests(int state) {
        for (int p : new int[] {0, -1, 16, 17, 31, 32, 33, -31, LEAST, MOST}) {
            refused("request(" + p + ")", x -> x.request(p), "false");
        }
        if (state != 0) {
            refused("request(3), pending", x -> x.request(3), "false");
        }
    }

    private void starts() {
        for (int level : new int[] {-1, 3, 4, LEAST, MOST}) {
            refused("start(7, " + level + ", true)", x -> {
                x.start(7, level, true);
                return "nothing";
            }, ARGUMENT);
        }
    }

    private void runs() {
        for (int n : new int[] {-1, 301, 302, LEAST, MOST}) {
            refused("run(" + n + ")", x -> x.run(n), ARGUMENT);
        }
    }

    private void registers() {
        int[][] wrong = {
            {-1, 0}, {2, 0}, {LEAST, 0}, {MOST, 7}, {0, -1}, {0, 8}, {1, -1}, {1, 8}, {0, LEAST},
            {1, MOST}, {-1, 8}, {2, 8},
        };
        for (int[] one : wrong) {
            refused("register(" + one[0] + ", " + one[1] + ")", x -> x.register(one[0], one[1]), INDEX);
        }
    }

    private void looks() {
        for (int which : new int[] {-1, 13, 14, LEAST, MOST}) {
            refused("look(" + which + ")", x -> x.look(which), "-1");
        }
        for (int which : new int[] {-1, 2, 3, LEAST, MOST}) {
            refused("list(" + which + ")", x -> x.list(which), "-1");
        }
    }

    private void whileItRuns() {
        int[][] pools = {{0, 0}, {3, 0}, {24, 31}};
        for (int[] one : pools) {
            refused("pool(" + one[0] + ", " + one[1] + ")", x -> {
                x.pool(one[0], one[1]);
                return "nothing";
            }, STATE);
        }
        for (int level = 0; level <= 2; level++) {
            int to = level;
            refused("start(7, " + level + ", false)", x -> {
                x.start(7, to, false);
                return "nothing";
            }, STATE);
        }
    }
}
