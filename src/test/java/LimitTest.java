/** The first section: an object is good for 512 calls, and each object is one of its own. */
public final class LimitTest {
    private static final int MOST_CALLS = 512;

    public static void main(String[] args) {
        longestUse();
        lastCallOfEachKind();
        objectsApart();
        Bench.end();
    }

    /** The dearest call, as often as it may be made, with traps and interrupts all the while. */
    private static void longestUse() {
        Bench b = Bench.ready("512 calls", 24);
        b.words(0, Bench.ins(21, 3), Bench.ins(27, 7), Bench.ins(18, -2));
        b.words(3, Bench.ins(23, 0), Bench.ins(24, 0), Bench.ins(22, 0));
        b.words(124, Bench.ins(26, 0)).words(160, Bench.ins(26, 0));
        b.x.timer(5, 5);
        b.x.start(0, 1, true);
        int runs = MOST_CALLS - 12 - 6;
        for (int k = 0; k < runs; k++) {
            b.run(300, 300);
        }
        b.look(Bench.TIME, 300 * runs);
        b.look(Bench.RUNS, 1);
        int waiting = b.x.look(Bench.PENDING) / 32;
        b.look(Bench.TAKEN, 60 * runs - waiting);
        b.due("list(0) + list(1)", b.x.list(0) + b.x.list(1), 24);
    }

    /** The 512th call is answered as any other. */
    private static void lastCallOfEachKind() {
        for (int kind = 0; kind < 9; kind++) {
            Bench b = new Bench("the last call, " + kind);
            b.x.pool(3, 7);
            for (int k = 2; k < MOST_CALLS; k++) {
                b.due("put", b.x.put(k, -k), true);
            }
            switch (kind) {
                case 0: b.word(511, -511); break;
                case 1: b.due("put", b.x.put(511, 5), true); break;
                case 2: b.due("put", b.x.put(512, 5), false); break;
                case 3: b.look(Bench.LAST, 7); break;
                case 4: b.due("list", b.x.list(1), 0); break;
                case 5: b.due("request", b.x.request(15), true); break;
                case 6: b.run(300, 0); break;
                case 7: b.throwing("run", IllegalArgumentException.class, () -> b.x.run(301)); break;
                default: b.register(Bench.A, 7, 0); break;
            }
        }
    }

    private static void objectsApart() {
        Bench one = Bench.busy("one object");
        Bench two = new Bench("another object");
        Seen before = Seen.of(one.x);
        two.x.pool(24, 5);
        two.x.tables(1, 2);
        two.words(0, Bench.ins(1, 3, 0, 0, 44), Bench.ins(31, 0)).go(2, 2);
        one.seen("after the other's calls", before);
        Bench third = new Bench("a new object");
        for (int which = 0; which <= 12; which++) {
            third.look(which, which == Bench.LATEST ? AreaCore.NONE : 0);
        }
        third.register(Bench.D, 3, 0);
        third.word(0, 0);
        third.word(256, 0);
    }
}
