/**
 * Long runs of calls with odd arguments and odd words, always the same ones: no call throws what
 * the document does not name, what is refused changes nothing, and the registers keep their bounds.
 */
public final class WalkTest {
    private static final int WALKS = 400;
    private static final int CALLS = 60;

    private int seed;

    private WalkTest(int seed) {
        this.seed = seed;
    }

    public static void main(String[] args) {
        for (int walk = 0; walk < WALKS; walk++) {
            new WalkTest(walk * 7919 + 1).walk("walk " + walk);
        }
        Bench.end();
    }

    private int below(int bound) {
        seed = seed * 1103515245 + 12345;
        return (seed >>> 8) % bound;
    }

    private int odd() {
        int[] odd = {-1, 0, 1, 2, 3, 15, 16, 24, 25, 31, 32, 300, 301, 511, 512, 1 << 30, 1 << 31};
        return odd[below(odd.length)];
    }

    private int anyWord() {
        int op = below(5) == 0 ? 21 + below(6) : below(32);
        return op | below(2048) << 5 | (below(3) == 0 ? odd() : below(40) - 20) << 16;
    }

    private void walk(String name) {
        Bench b = new Bench(name);
        b.x.pool(below(25), below(4) == 0 ? below(32) : 31);
        b.x.tables(below(64), below(64));
        b.x.range(0, 2, 0, 256, 0);
        for (int k = 0; k < 90; k++) {
            b.x.put(below(8) == 0 ? below(512) : k, anyWord());
        }
        for (int call = 0; call < CALLS; call++) {
            Seen before = call % 16 == 0 ? Seen.of(b.x) : null;
            boolean refused = call(b, below(12));
            if (refused && before != null) {
                b.seen("refused", before);
            }
        }
        bounds(b);
    }

    /** Makes one call; true if it was refused. */
    private boolean call(Bench b, int which) {
        try {
            switch (which) {
                case 0: return !b.x.put(odd(), odd());
                case 1: b.x.pool(odd(), odd()); return false;
                case 2: b.x.range(odd(), odd(), odd(), odd(), odd()); return false;
                case 3: b.x.guard(below(2) == 0); return false;
                case 4: b.x.timer(odd(), odd()); return false;
                case 5: return !b.x.request(odd());
                case 6: return !b.x.halt();
                case 7: b.x.register(odd(), odd()); return false;
                case 8: b.x.word(odd()); return false;
                case 9: b.x.start(below(90), below(4), below(2) == 0); return false;
                default: return ran(b);
            }
        } catch (IllegalArgumentException e) {
            b.due("IllegalArgumentException of " + which,
                which == 1 || which == 2 || which == 4 || which == 9 || which > 9, true);
        } catch (IllegalStateException e) {
            b.due("IllegalStateException of " + which, which == 1 || which == 9, true);
        } catch (IndexOutOfBoundsException e) {
            b.due("IndexOutOfBoundsException of " + which, which, 7);
        }
        return true;
    }

    private boolean ran(Bench b) {
        int time = b.x.look(Bench.TIME);
        int steps = b.x.run(below(9) == 0 ? odd() : below(301));
        b.look(Bench.TIME, time + steps);
        return false;
    }

    private static void bounds(Bench b) {
        int state = b.x.look(Bench.STATE);
        b.due("STATE " + state, state >= 0 && state < 128 && (state & 3) < 3, true);
        int priority = b.x.look(Bench.PRIORITY);
        b.due("PRIORITY " + priority, priority >= 0 && priority < 16, true);
        int pending = b.x.look(Bench.PENDING);
        b.due("PENDING " + pending, (pending & ~0xFFFE) == 0, true);
        for (int which = 0; which <= 1; which++) {
            int count = b.x.list(which);
            b.due("list " + count, count >= 0 && count <= 32, true);
        }
    }
}
