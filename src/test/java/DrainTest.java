/** Terms: DRAINED, and the TRAP 3, 1 that follows it, for every way to keep a context. */
public final class DrainTest {
    private static final int KEEP = Bench.ins(23, 0);
    /** Not 2 and 3, to which FREE comes on the way to the step. */
    private static final int[] LASTS = {0, 1, 6, 24, 25, 31};
    private static final int[] BESIDE = {-1, 0, 1, 32, 64 - 1, 4096, -32, Integer.MIN_VALUE};

    public static void main(String[] args) {
        notedIfFreeIsThenLast();
        notNotedIfFreeWasLast();
        notNotedByBringingBack();
        noteOfTheTrapItselfGoes();
        noteDoesNotOutliveTheStep();
        lastIsComparedWithAllItsBits();
        wholePoolUntilItIsDrained();
        Bench.end();
    }

    /**
     * "If FREE & 31 is then LAST, DRAINED is noted", "TRAP 3, 1 follows at its end, unless the step
     * had a trap of class 3", "a HALT in the TRAP 3, 1 at the end leaves what the step did".
     */
    private static void notedIfFreeIsThenLast() {
        for (Way way : Way.values()) {
            for (int last : LASTS) {
                for (int beside : BESIDE) {
                    keep(way, last, last + beside);
                }
            }
        }
    }

    private static void keep(Way way, int last, int next) {
        Bench b = way.ready(3, last);
        b.x.put(Bench.area(3), next);
        b.step("a step to " + next, seen -> {
            way.due(seen, 3);
            if ((next & 31) == last && way.trapClass != 3) {
                drained(seen, next & 31);
            }
        });
    }

    private static void drained(Seen seen, int area) {
        if (area >= 1 && area <= 24) {
            seen.trap(3, 1, area, seen.looks[Bench.PC]);
        } else {
            seen.halted();
        }
    }

    private static Bench draining(String name, int n, int last) {
        Bench b = new Bench(name);
        b.x.pool(n, last);
        b.x.tables(Bench.TABLE, Bench.OTHER);
        return b.filled();
    }

    /** It is looked at FREE behind the keeping, not before it. */
    private static void notNotedIfFreeWasLast() {
        for (int last = 1; last <= 3; last++) {
            boolean drains = last == 2;
            Bench b = draining("FREE 1, then 2, LAST " + last, 5, last).words(0, KEEP);
            b.x.start(0, 2, false);
            b.step("a step", seen -> {
                seen.lower(1).pc(1);
                if (drains) {
                    drained(seen, 2);
                }
            });
        }
    }

    /** Only to keep a context notes it, though to bring one back makes FREE LAST, too. */
    private static void notNotedByBringingBack() {
        int[][] pairs = {{21, 22}, {21, 26}, {23, 24}};
        for (int[] pair : pairs) {
            Bench b = draining(pair[1] + " makes FREE LAST", 5, 1);
            b.words(0, Bench.ins(pair[0], 1), Bench.ins(pair[1], 0));
            b.x.start(0, 2, false);
            b.run(2, 2);
            b.look(Bench.FREE, 1);
            b.look(Bench.RUNS, 1);
            b.untrapped();
        }
    }

    /** "A note of that trap's own keeping goes." */
    private static void noteOfTheTrapItselfGoes() {
        for (int next : new int[] {5, 6, 7, 38}) {
            Bench b = draining("TRAP 3, 1 with " + next + " behind it", 8, 6);
            b.words(0, KEEP).words(112, Bench.ins(1, 3));
            b.x.put(Bench.area(1), 6);
            b.x.put(Bench.area(6), next);
            b.x.start(0, 2, false);
            b.step("a step", seen -> seen.lower(1).pc(1).trap(3, 1, 6, 1));
            b.look(Bench.FREE, next);
            b.step("the next step", seen -> seen.d(0, 3).pc(113));
            b.trapped(3, 1, 1);
        }
    }

    /** "If DRAINED was noted in a step": what a trap of class 3 noted means nothing to the next. */
    private static void noteDoesNotOutliveTheStep() {
        Way[] ways = {Way.TRAP_3_2, Way.TRAP_3_3, Way.TRAP_3_4};
        for (Way way : ways) {
            Bench b = way.ready(3, 4).words(112, Bench.ins(1, 3));
            b.step("a step", seen -> way.due(seen, 3));
            b.look(Bench.FREE, 4);
            b.step("the next step", seen -> seen.d(0, 3).pc(113));
            b.look(Bench.TRAPS, 1);
        }
        Bench halted = draining("a step that HALTS", 1, 0).words(0, KEEP);
        halted.x.start(0, 2, false);
        halted.step("a step", seen -> seen.lower(1).pc(1).halted());
        halted.x.pool(4, 31);
        halted.words(1, Bench.ins(1, 3));
        halted.x.start(1, 2, false);
        halted.step("the next step", seen -> seen.d(0, 3).pc(2));
        halted.untrapped();
    }

    /** FREE has & 31 there, LAST has none to need. */
    private static void lastIsComparedWithAllItsBits() {
        for (int last = 0; last <= 31; last++) {
            for (int next = 0; next <= 31; next++) {
                Bench b = draining("LAST " + last + ", next " + next, 1, last).words(0, KEEP);
                b.x.put(Bench.area(1), next);
                b.x.start(0, 2, false);
                b.run(1, 1);
                boolean drains = next == last;
                boolean traps = drains && next >= 1 && next <= 24;
                b.look(Bench.TRAPS, traps ? 1 : 0);
                b.look(Bench.RUNS, drains && !traps ? 0 : 1);
            }
        }
    }

    /** One call after the other: LAST is met once, and the areas behind it can still be used. */
    private static void wholePoolUntilItIsDrained() {
        Bench b = draining("whole pool", 4, 4).words(0, KEEP, KEEP, KEEP).words(112, KEEP);
        b.x.start(0, 1, false);
        b.step("first", seen -> seen.lower(1).pc(1));
        b.step("second", seen -> seen.lower(2).pc(2));
        b.step("third", seen -> seen.lower(3).pc(3).trap(3, 1, 4, 3));
        b.lists(0, 4);
        b.step("in the handler", seen -> seen.halted());
        b.trapped(3, 1, 1);
    }
}
