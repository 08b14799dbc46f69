/** Promises 3 (pool) and 15 (list). */
public final class PoolTest {
    public static void main(String[] args) {
        pools();
        poolAgain();
        wrongPools();
        lists();
        Bench.end();
    }

    private static void pools() {
        for (int n = 0; n <= 24; n++) {
            Bench b = new Bench("pool " + n);
            for (int k = 1; k <= 24; k++) {
                b.words(Bench.area(k), -1, -2);
            }
            b.x.pool(n, n + 7);
            b.look(Bench.FREE, n == 0 ? 0 : 1);
            b.look(Bench.LAST, n + 7);
            b.look(Bench.LINK, 0);
            b.lists(n, 0);
            for (int k = 1; k <= 24; k++) {
                b.area(k, k > n ? -1 : k == n ? 0 : k + 1, -2);
            }
        }
    }

    private static void poolAgain() {
        Bench b = Bench.ready("pool again", 5).words(0, Bench.ins(23, 0), Bench.ins(21, 1), 0);
        b.go(2, 3);
        b.lists(2, 3);
        b.x.halt();
        b.x.pool(2, 0);
        b.lists(2, 0);
        b.look(Bench.LINK, 0);
        b.look(Bench.LAST, 0);
        b.area(2, 0);
        b.area(3, 34);
    }

    private static void wrongPools() {
        Bench b = Bench.ready("wrong pool", 3).words(0, Bench.ins(23, 0), Bench.ins(18, 0));
        b.go(2, 2);
        b.x.halt();
        Seen before = Seen.of(b.x);
        int[][] wrong = {{-1, 0}, {25, 0}, {Integer.MIN_VALUE, 1}, {3, -1}, {3, 32}, {99, 99}};
        for (int[] one : wrong) {
            b.throwing("pool", IllegalArgumentException.class, () -> b.x.pool(one[0], one[1]));
        }
        b.seen("refused", before);
        b.x.start(1, 2, false);
        before = Seen.of(b.x);
        b.throwing("pool, runs", IllegalStateException.class, () -> b.x.pool(3, 0));
        b.throwing("pool, both", IllegalArgumentException.class, () -> b.x.pool(25, 0));
        b.throwing("pool, both", IllegalArgumentException.class, () -> b.x.pool(0, 32));
        b.seen("refused", before);
    }

    private static void lists() {
        Bench b = new Bench("lists");
        b.x.pool(3, 0);
        b.x.put(Bench.area(3), 3 + 32 * 77);
        b.lists(32, 0);
        b.x.put(Bench.area(3), 25);
        b.lists(3, 0);
        b.x.put(Bench.area(2), 31 - 64);
        b.lists(2, 0);
        b.x.put(Bench.area(2), 24 + 64);
        b.lists(3, 0);
        b.x.put(Bench.area(24), 1);
        b.lists(32, 0);
        b.x.put(Bench.area(24), 32);
        b.lists(3, 0);
        int[] others = {-1, 2, 3, Integer.MIN_VALUE, Integer.MAX_VALUE};
        for (int which : others) {
            b.due("list(" + which + ")", b.x.list(which), AreaCore.NONE);
        }
        b.words(0, Bench.ins(23, 0), Bench.ins(23, 0), Bench.ins(31, 0)).go(2, 3);
        b.lists(1, 2);
        b.x.put(Bench.area(1), 2 + 32);
        b.lists(1, 32);
        b.x.put(Bench.area(1), 26);
        b.lists(1, 2);
    }
}
