/** Traps and instructions 0 and 27 to 31: how a trap is taken, DRAINED, and what levels may do. */
public final class TrapTest {
    private static final int KEEP = Bench.ins(23, 0);
    private static final int LEAVE = Bench.ins(26, 0);

    public static void main(String[] args) {
        takingATrap();
        askedTraps();
        levels();
        changingTheLevel();
        enabledAndSet();
        haltInstruction();
        trapThatHalts();
        drainedByAnInstruction();
        drainedByACall();
        drainedByATrap();
        drainedByAnInterrupt();
        drainedInAClassThreeTrap();
        drainedAtLastZero();
        drainedOnlyWhenKeeping();
        noteOfTheTrapItself();
        Bench.end();
    }

    private static void takingATrap() {
        Bench b = Bench.ready("trap", 9);
        b.words(30, Bench.ins(25, 6), Bench.ins(29, 1), Bench.ins(21, 2), 0, Bench.ins(30, 1), 0);
        b.setA(6, 96);
        b.setA(7, 97);
        b.setD(7, 87);
        b.x.start(30, 2, false);
        b.run(5, 5);
        b.look(Bench.PC, 108);
        b.trapped(2, 1, 1);
        b.look(Bench.STATE, 2);
        b.look(Bench.ENABLED, 0);
        b.look(Bench.PRIORITY, 6);
        b.look(Bench.LINK, 3 + 32 + 256 * 6 + 4096);
        b.register(Bench.A, 7, 35);
        b.register(Bench.A, 6, 96);
        b.register(Bench.D, 7, 1);
        b.area(3, 2 + 32 + 256 * 6 + 4096, 1 + 4 + 8, 96, 33, 0, 0, 0, 87);
        b.x.put(108, LEAVE);
        b.run(1, 1);
        b.look(Bench.PC, 35);
        b.look(Bench.STATE, 1 + 4 + 8);
        b.look(Bench.ENABLED, 1);
        b.register(Bench.A, 7, 33);
        b.register(Bench.D, 7, 87);
    }

    private static void askedTraps() {
        int[][] numbers = {{0, 0}, {15, 15}, {16, 16}, {255, 255}, {256, 0}, {511, 255}, {-1, 255}};
        for (int[] one : numbers) {
            Bench b = Bench.ready("asked trap " + one[0], 2).words(0, Bench.ins(27, one[0])).go(0, 1);
            b.trapped(6, one[1], 1);
            b.register(Bench.D, 7, one[1]);
            b.register(Bench.A, 7, 1);
            b.look(Bench.PC, 124);
            b.look(Bench.LINK, 33);
        }
    }

    private static void levels() {
        int[] top = {25, 26, 28, 29, 31};
        for (int op : top) {
            for (int level = 0; level <= 1; level++) {
                Bench b = Bench.ready("level " + level + " for " + op, 3);
                b.words(0, Bench.ins(op, 1)).go(level, 1);
                b.trapped(1, 1, 1);
                b.look(Bench.RUNS, 1);
                b.look(Bench.PC, 104);
                b.register(Bench.D, 7, 1);
                b.register(Bench.A, 7, 0);
                b.area(1, 0, level);
                b.look(Bench.LINK, 33);
                b.look(Bench.FREE, 2);
                b.look(Bench.PRIORITY, 0);
            }
            Bench b = Bench.ready("level 2 for " + op, 3).words(0, Bench.ins(op, 1)).go(2, 1);
            b.untrapped();
        }
        for (int op = 1; op <= 24; op++) {
            Bench b = Bench.ready("level 0 for " + op, 3);
            b.words(0, Bench.ins(9, 1, 0, 0, 100), Bench.ins(11, 2, 0, 0, 0));
            b.words(2, Bench.ins(op, 0, 1, 0, 1)).go(0, 3);
            int due = op == 22 ? 0x33 : op == 17 ? 0x22 : AreaCore.NONE;
            b.look(Bench.LATEST, due);
        }
    }

    private static void changingTheLevel() {
        for (int level = 0; level <= 2; level++) {
            for (int i = 0; i <= 3; i++) {
                Bench b = Bench.ready("level from " + level + " by " + i, 3);
                b.words(0, Bench.ins(30, i)).go(level, 1);
                if ((i & 1) > level) {
                    b.trapped(1, 1, 1);
                    b.area(1, 0, 0);
                } else {
                    b.untrapped();
                    b.look(Bench.STATE, i & 1);
                    b.look(Bench.PC, 1);
                }
            }
        }
    }

    private static void enabledAndSet() {
        Bench b = Bench.ready("enabled and set", 3);
        b.words(0, Bench.ins(28, 3), Bench.ins(28, 2), Bench.ins(29, -1), Bench.ins(29, 2), Bench.ins(28, 1));
        b.go(2, 1);
        b.look(Bench.ENABLED, 1);
        b.run(1, 1);
        b.look(Bench.ENABLED, 0);
        b.run(1, 1);
        b.look(Bench.STATE, 6);
        b.run(1, 1);
        b.look(Bench.STATE, 2);
        b.x.request(1);
        b.run(1, 1);
        b.look(Bench.TAKEN, 0);
        b.look(Bench.PC, 5);
        b.run(1, 1);
        b.look(Bench.TAKEN, 1);
    }

    private static void haltInstruction() {
        Bench b = Bench.ready("halts", 3).words(0, Bench.ins(1, 1), Bench.ins(31, 5));
        b.x.start(0, 2, false);
        b.run(300, 2);
        b.look(Bench.RUNS, 0);
        b.look(Bench.PC, 1);
        b.look(Bench.TIME, 2);
        b.untrapped();
        b.lists(3, 0);
    }

    private static void trapThatHalts() {
        Bench b = Bench.ready("trap that halts", 1).words(0, 0).words(108, Bench.ins(13, 1, 1, 0, -1));
        b.x.start(0, 1, false);
        b.run(300, 2);
        b.look(Bench.RUNS, 0);
        b.look(Bench.PC, 108);
        b.trapped(2, 1, 1);
        b.register(Bench.D, 7, 1);
        b.register(Bench.A, 7, 0);
        b.lists(0, 1);
        Bench timed = Bench.ready("timer in a step that halts", 0).words(0, 0);
        timed.x.timer(1, 4);
        timed.go(2, 1);
        timed.look(Bench.PENDING, 16);
        timed.look(Bench.RUNS, 0);
        timed.look(Bench.TIME, 1);
    }

    private static Bench draining(String name, int n, int last) {
        Bench b = new Bench(name);
        b.x.pool(n, last);
        b.x.tables(100, 140);
        return b;
    }

    private static void drainedByAnInstruction() {
        Bench b = draining("drained", 5, 3).words(0, KEEP, Bench.ins(25, 7)).words(112, LEAVE);
        b.go(2, 1);
        b.untrapped();
        b.run(1, 1);
        b.trapped(3, 1, 1);
        b.look(Bench.PC, 112);
        b.register(Bench.A, 7, 2);
        b.register(Bench.D, 7, 1);
        b.look(Bench.LINK, 3 + 32 + 256 * 7 + 4096);
        b.look(Bench.ENABLED, 0);
        b.look(Bench.TIME, 2);
        b.lists(2, 3);
        b.run(1, 1);
        b.look(Bench.PC, 2);
        b.look(Bench.TRAPS, 1);
        b.look(Bench.ENABLED, 1);
    }

    private static void drainedByACall() {
        Bench b = draining("drained by a call", 5, 2).words(0, Bench.ins(21, 50)).go(1, 1);
        b.trapped(3, 1, 1);
        b.register(Bench.A, 7, 50);
        b.look(Bench.STATE, 2);
        b.area(1, 0, 1);
        b.area(2, 33, 9, 0, 1);
        b.look(Bench.PC, 112);
    }

    private static void drainedByATrap() {
        Bench b = draining("drained by a trap", 5, 2).words(0, Bench.ins(27, 5)).go(1, 1);
        b.trapped(3, 1, 2);
        b.register(Bench.A, 7, 124);
        b.register(Bench.D, 7, 1);
        b.look(Bench.PC, 112);
        b.area(1, 0, 1);
        b.area(2, 33, 2, 0, 1, 0, 0, 0, 5);
        b.lists(3, 2);
    }

    private static void drainedByAnInterrupt() {
        Bench b = draining("drained by an interrupt", 5, 2).words(9, Bench.ins(18, 0));
        b.x.request(2);
        b.x.start(9, 0, true);
        b.run(1, 1);
        b.trapped(3, 1, 1);
        b.look(Bench.TAKEN, 1);
        b.look(Bench.PRIORITY, 2);
        b.look(Bench.PC, 112);
        b.register(Bench.A, 7, 148);
        b.look(Bench.LINK, 2 + 32 + 512);
        b.area(2, 1 + 32 + 4096, 2, 0, 9);
    }

    private static void drainedInAClassThreeTrap() {
        Bench b = draining("drained in class 3", 5, 2).words(0, Bench.ins(22, 0)).go(1, 1);
        b.trapped(3, 3, 1);
        b.lists(4, 1);
        b.words(112, Bench.ins(1, 4));
        b.run(1, 1);
        b.trapped(3, 3, 1);
        b.look(Bench.PC, 113);
        Bench kind = draining("drained in 3, 4", 5, 3).words(0, KEEP, Bench.ins(26, 0)).go(2, 2);
        kind.trapped(3, 4, 1);
        kind.lists(3, 2);
        Bench deep = draining("drained in 3, 2", 24, 17).words(0, Bench.ins(21, 0)).go(2, 16);
        deep.trapped(3, 2, 1);
        deep.lists(8, 16);
    }

    private static void drainedAtLastZero() {
        Bench b = draining("drained to the end", 2, 0).words(0, Bench.ins(21, 5)).words(5, KEEP);
        b.x.start(0, 0, false);
        b.run(300, 2);
        b.look(Bench.RUNS, 0);
        b.look(Bench.PC, 6);
        b.look(Bench.LINK, 2);
        b.look(Bench.STATE, 8);
        b.untrapped();
        b.lists(0, 2);
        b.area(2, 33, 1);
        Bench trap = draining("drained to the end by a trap", 1, 0).words(0, Bench.ins(27, 3));
        trap.x.start(0, 0, false);
        trap.run(300, 1);
        trap.trapped(6, 3, 1);
        trap.look(Bench.RUNS, 0);
        trap.look(Bench.PC, 124);
        trap.register(Bench.D, 7, 3);
        Bench call = draining("drained to none", 2, 25).words(0, KEEP, KEEP);
        call.x.put(Bench.area(1), 25 + 32);
        call.x.start(0, 0, false);
        call.run(300, 1);
        call.look(Bench.PC, 1);
        call.untrapped();
        Bench taken = draining("drained to the end by an interrupt", 1, 0);
        taken.x.request(9);
        taken.x.start(7, 0, true);
        taken.run(300, 1);
        taken.look(Bench.RUNS, 0);
        taken.look(Bench.TAKEN, 1);
        taken.look(Bench.PENDING, 0);
        taken.look(Bench.PC, 176);
        taken.register(Bench.A, 7, 7);
    }

    private static void drainedOnlyWhenKeeping() {
        Bench b = draining("drained only by keeping", 4, 1);
        b.words(0, KEEP, Bench.ins(24, 0), Bench.ins(1, 5)).go(2, 3);
        b.untrapped();
        b.look(Bench.FREE, 1);
        Bench back = draining("drained once", 4, 2).words(0, KEEP).words(112, Bench.ins(1, 5));
        back.go(2, 2);
        back.trapped(3, 1, 1);
        back.look(Bench.PC, 113);
    }

    /** The keeping of TRAP 3, 1 may come upon LAST itself: that note goes. */
    private static void noteOfTheTrapItself() {
        Bench b = draining("note of the trap itself", 4, 2).words(0, KEEP);
        b.x.put(Bench.area(2), 2 + 64);
        b.words(112, Bench.ins(1, 3)).go(2, 1);
        b.trapped(3, 1, 1);
        b.look(Bench.FREE, 66);
        b.run(1, 1);
        b.trapped(3, 1, 1);
        b.look(Bench.PC, 113);
    }
}
