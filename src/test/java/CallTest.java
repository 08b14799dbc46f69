/** What each call that is not refused changes, at the edges of what it takes, and nothing else. */
public final class CallTest {
    private static final int LEAST = Integer.MIN_VALUE;
    private static final int MOST = Integer.MAX_VALUE;

    public static void main(String[] args) {
        for (int state = 0; state <= 1; state++) {
            boolean runs = state == 1;
            puts(runs);
            everyWordIsItsOwn();
            unseen(runs);
            requests(runs);
            looking(runs);
        }
        pools();
        starts();
        halts();
        runsUpToN();
        runsUntilItIsHalted();
        Bench.end();
    }

    private static Bench bench(String name, boolean runs) {
        Bench b = Bench.busy(name + (runs ? ", RUNS" : ", HALTED"));
        if (!runs) {
            b.x.halt();
        }
        return b;
    }

    /** Promise 2, at both ends of the addresses and of the areas. */
    private static void puts(boolean runs) {
        for (int address : new int[] {0, 1, 255, 256, 447, 448, 510, 511}) {
            for (int v : new int[] {0, 1, -1, LEAST, MOST}) {
                Bench b = bench("put(" + address + ", " + v + ")", runs);
                b.changes("put", () -> b.due("put", b.x.put(address, v), true),
                    seen -> seen.word(address, v));
                b.word(address, v);
            }
        }
    }

    /** Promises 2 and 13: "512 WORDS ... at the ADDRESSES 0 .. 511", one beside the other. */
    private static void everyWordIsItsOwn() {
        for (int part = 0; part < 4; part++) {
            Bench b = new Bench("every word, part " + part);
            for (int k = 0; k < 128; k++) {
                b.due("put", b.x.put(128 * part + k, 1000 + 128 * part + k), true);
            }
            for (int k = 0; k < 128; k++) {
                b.word(128 * part + k, 1000 + 128 * part + k);
            }
            for (int k = 0; k < 128; k++) {
                b.word(128 * ((part + 1) % 4) + k, 0);
            }
        }
    }

    /** Promise 3: all n, LAST at both ends; FREE's list, LAST and LINK change, and no other word. */
    private static void pools() {
        for (int n = 0; n <= 24; n++) {
            for (int last : new int[] {0, 1, 24, 25, 30, 31}) {
                pool(n, last);
            }
        }
    }

    private static void pool(int n, int last) {
        Bench b = bench("pool(" + n + ", " + last + ")", false);
        b.changes("pool", () -> b.x.pool(n, last), seen -> {
            for (int k = 1; k <= n; k++) {
                seen.word(Bench.area(k), k < n ? k + 1 : 0);
            }
            seen.set(Bench.FREE, n == 0 ? 0 : 1).set(Bench.LAST, last).set(Bench.LINK, 0);
        });
        b.lists(n, 0);
    }

    /** Promises 4 to 7 at the edges of what they take: nothing that can be looked at. */
    private static void unseen(boolean runs) {
        Bench b = bench("unseen", runs);
        int[][] pairs = {{0, 0}, {LEAST, MOST}, {-1, 512}};
        for (int[] pair : pairs) {
            b.changes("tables", () -> b.x.tables(pair[0], pair[1]), seen -> { });
        }
        int[][] ranges = {{0, 0, 0}, {0, 1, 1}, {0, 2, 2}, {1, 0, 3}, {1, 1, 0}, {1, 2, 3}};
        for (int[] one : ranges) {
            b.changes("range", () -> b.x.range(one[0], one[1], LEAST, MOST, one[2]), seen -> { });
        }
        int[][] timers = {{0, 1}, {0, 15}, {1, 1}, {1, 15}, {MOST, 1}, {MOST, 15}};
        for (int[] one : timers) {
            b.changes("timer", () -> b.x.timer(one[0], one[1]), seen -> { });
        }
        b.changes("guard(false)", () -> b.x.guard(false), seen -> { });
        b.changes("guard(true)", () -> b.x.guard(true), seen -> { });
    }

    /** Promise 8: 1 .. 15, once each while they wait. */
    private static void requests(boolean runs) {
        Bench b = bench("request", runs);
        for (int p = 1; p <= 15; p++) {
            int asked = p;
            b.changes("request(" + p + ")",
                () -> b.due("request(" + asked + ")", b.x.request(asked), asked != 3),
                seen -> seen.set(Bench.PENDING, seen.looks[Bench.PENDING] | 1 << asked));
        }
        b.look(Bench.PENDING, 65534);
    }

    /** Promises 12 to 15 answer, and leave all as it is. */
    private static void looking(boolean runs) {
        Bench b = bench("looking", runs);
        b.changes("registers", () -> {
            for (int k = 0; k < 8; k++) {
                b.x.register(0, k);
                b.x.register(1, k);
            }
        }, seen -> { });
        b.changes("words", () -> {
            b.x.word(0);
            b.x.word(511);
        }, seen -> { });
        b.changes("looks", () -> {
            for (int which = 0; which <= 12; which++) {
                b.x.look(which);
            }
        }, seen -> { });
        b.changes("lists", () -> {
            b.x.list(0);
            b.x.list(1);
        }, seen -> { });
    }

    /** Promise 9: LEVEL 0 .. 2, and any PC. */
    private static void starts() {
        for (int pc : new int[] {0, 1, 511, 512, -1, LEAST, MOST}) {
            for (int level = 0; level <= 2; level++) {
                start(pc, level, false);
                start(pc, level, true);
            }
        }
    }

    private static void start(int pc, int level, boolean enabled) {
        Bench b = bench("start(" + pc + ", " + level + ", " + enabled + ")", false);
        b.changes("start", () -> b.x.start(pc, level, enabled), seen -> {
            seen.set(Bench.RUNS, 1).pc(pc).set(Bench.STATE, level).set(Bench.PRIORITY, 0);
            seen.set(Bench.ENABLED, enabled ? 1 : 0);
        });
    }

    /** Promise 10. */
    private static void halts() {
        Bench b = bench("halt", true);
        b.changes("halt()", () -> b.due("halt()", b.x.halt(), true), seen -> seen.halted());
        b.changes("halt()", () -> b.due("halt()", b.x.halt(), false), seen -> { });
        Bench fresh = new Bench("halt, new");
        fresh.changes("halt()", () -> fresh.due("halt()", fresh.x.halt(), false), seen -> { });
        fresh.x.start(0, 0, false);
        fresh.changes("halt()", () -> fresh.due("halt()", fresh.x.halt(), true), seen -> seen.halted());
    }

    /** Promise 11: "Up to n steps, 0 .. 300". */
    private static void runsUpToN() {
        for (int n : new int[] {0, 1, 2, 299, 300}) {
            Bench b = Bench.ready("run(" + n + ")", 3);
            b.words(0, Bench.ins(2, 1, 1, 0, 1), Bench.ins(18, -1));
            b.changes("HALTED", () -> b.run(n, 0), seen -> { });
            b.x.start(0, 0, false);
            b.changes("RUNS", () -> b.run(n, n),
                seen -> seen.set(Bench.TIME, n).d(1, (n + 1) / 2).pc(n % 2));
            b.look(Bench.RUNS, 1);
        }
    }

    /** Promise 11: "until it is HALTED: how many (one that HALTS counts)". */
    private static void runsUntilItIsHalted() {
        for (int at = 1; at <= 5; at++) {
            for (int n = 0; n <= 7; n++) {
                Bench b = Bench.ready("run(" + n + "), HALTED by step " + at, 3);
                for (int k = 0; k < 7; k++) {
                    b.words(k, k + 1 == at ? Bench.ins(31, 0) : Bench.ins(1, 0));
                }
                b.x.start(0, 2, false);
                b.run(n, Math.min(n, at));
                b.look(Bench.RUNS, n < at ? 1 : 0);
                b.look(Bench.TIME, Math.min(n, at));
                b.run(300, n < at ? at - n : 0);
                b.look(Bench.TIME, at);
                b.look(Bench.PC, at - 1);
            }
        }
    }
}
