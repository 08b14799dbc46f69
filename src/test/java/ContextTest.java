/** Instructions 21 to 26: contexts that are kept and brought back. */
public final class ContextTest {
    private static final int CALL = Bench.ins(21, 1);
    private static final int RETURN = Bench.ins(22, 0);
    private static final int KEEP = Bench.ins(23, 0);
    private static final int BACK = Bench.ins(24, 0);
    private static final int LEAVE = Bench.ins(26, 0);

    public static void main(String[] args) {
        callAndReturn();
        lower();
        kindsInTheLink();
        stateComesBack();
        leaving();
        returnLeavesThePriority();
        deepest();
        returnAtDepthZero();
        otherKind();
        noAreaToBringBack();
        noAreaToKeep();
        wholeWordsInTheLists();
        Bench.end();
    }

    private static void changeAll(Bench b, int at) {
        for (int k = 0; k < 8; k++) {
            b.words(at + 2 * k, Bench.ins(1, k, 0, 0, 50 + k), Bench.ins(9, k, 0, 0, 60 + k));
        }
    }

    private static void callAndReturn() {
        Bench b = Bench.ready("call", 3).filled();
        b.words(40, Bench.ins(21, 30));
        changeAll(b, 70);
        b.words(86, Bench.ins(9, 7, 0, 0, 90), RETURN);
        b.x.start(40, 1, false);
        b.run(1, 1);
        b.look(Bench.PC, 70);
        b.look(Bench.STATE, 1 + 8);
        b.look(Bench.LINK, 33);
        b.look(Bench.FREE, 2);
        b.register(Bench.A, 7, 41);
        b.register(Bench.A, 6, 26);
        b.area(1, 0, 1, 26, 27, 14, 15, 16, 17);
        b.area(2, 3, 0, 0);
        b.run(17, 17);
        b.run(1, 1);
        b.look(Bench.PC, 90);
        b.look(Bench.STATE, 1);
        b.look(Bench.LINK, 0);
        b.look(Bench.FREE, 1);
        b.area(1, 2, 1, 26, 27, 14, 15, 16, 17);
        for (int k = 0; k < 8; k++) {
            b.register(Bench.D, k, k < 4 ? 50 + k : 10 + k);
            b.register(Bench.A, k, k < 6 ? 60 + k : 20 + k);
        }
        b.lists(3, 0);
        b.untrapped();
    }

    private static void lower() {
        Bench b = Bench.ready("lower", 3).filled().words(40, KEEP);
        changeAll(b, 41);
        b.words(57, BACK);
        b.x.start(40, 0, false);
        b.run(1, 1);
        b.look(Bench.LINK, 1);
        b.look(Bench.FREE, 2);
        b.look(Bench.STATE, 0);
        b.look(Bench.PC, 41);
        b.area(1, 0, 27, 22, 23, 10, 11, 12, 13);
        b.register(Bench.A, 7, 27);
        b.run(17, 17);
        b.look(Bench.PC, 58);
        b.look(Bench.LINK, 0);
        b.look(Bench.FREE, 1);
        b.area(1, 2);
        for (int k = 0; k < 8; k++) {
            b.register(Bench.D, k, k < 4 ? 10 + k : 50 + k);
            b.register(Bench.A, k, k == 7 || k == 2 || k == 3 ? 20 + k : 60 + k);
        }
        b.untrapped();
    }

    private static void kindsInTheLink() {
        Bench b = Bench.ready("links", 5);
        b.words(0, Bench.ins(25, 9), CALL, KEEP, Bench.ins(28, 0), CALL, KEEP, BACK, RETURN);
        b.go(2, 6);
        int kept = 256 * 9;
        b.area(1, 0);
        b.area(2, 1);
        b.area(3, 2 + 32 + kept + 4096);
        b.area(4, 3 + kept + 4096);
        b.area(5, 4 + 32 + kept);
        b.look(Bench.LINK, 5 + kept);
        b.look(Bench.FREE, 0);
        b.lists(0, 5);
        b.run(1, 1);
        b.look(Bench.LINK, 4 + 32 + kept);
        b.x.put(Bench.area(4), -1);
        b.run(1, 1);
        b.look(Bench.LINK, -1);
        b.look(Bench.ENABLED, 0);
        b.look(Bench.PRIORITY, 9);
    }

    private static void stateComesBack() {
        int[][] states = {
            {0, 0}, {1, 1}, {2, 2}, {3, 2}, {4, 4}, {7, 6}, {8, 8}, {120, 120}, {127, 126},
            {128, 0}, {-1, 126}, {1 << 30 | 5, 5}, {Integer.MIN_VALUE, 0},
        };
        for (int[] one : states) {
            Bench b = Bench.ready("state " + one[0], 3).words(0, CALL, RETURN).go(2, 1);
            b.x.put(Bench.area(1) + 1, one[0]);
            b.run(1, 1);
            b.look(Bench.STATE, one[1]);
        }
    }

    private static void leaving() {
        for (int p = 0; p <= 15; p++) {
            for (int enabled = 0; enabled <= 1; enabled++) {
                Bench b = Bench.ready("leaving " + p + ", " + enabled, 4);
                b.words(0, Bench.ins(25, p), Bench.ins(28, enabled), CALL);
                b.words(3, Bench.ins(25, 15 - p), Bench.ins(28, 1 - enabled), BACK);
                b.words(6, Bench.ins(9, 7, 0, 0, 77), LEAVE).go(2, 7);
                b.look(Bench.PRIORITY, 15 - p);
                b.look(Bench.ENABLED, 1 - enabled);
                b.look(Bench.LINK, 2 + 32 + 256 * p + 4096 * enabled);
                b.run(1, 1);
                b.look(Bench.PC, 77);
                b.look(Bench.PRIORITY, p);
                b.look(Bench.ENABLED, enabled);
                b.look(Bench.LINK, 1);
                b.look(Bench.STATE, 2);
                b.register(Bench.A, 7, 0);
                b.untrapped();
            }
        }
    }

    private static void returnLeavesThePriority() {
        Bench b = Bench.ready("return leaves the priority", 4);
        b.words(0, CALL, Bench.ins(25, 9), BACK, RETURN).go(2, 3);
        b.look(Bench.LINK, 33);
        b.run(1, 1);
        b.look(Bench.PC, 1);
        b.look(Bench.PRIORITY, 9);
        b.look(Bench.ENABLED, 1);
        b.untrapped();
    }

    private static void deepest() {
        Bench b = Bench.ready("deepest", 24).words(0, Bench.ins(21, 0));
        b.go(1, 15);
        b.look(Bench.STATE, 1 + 8 * 15);
        b.untrapped();
        b.lists(9, 15);
        b.run(1, 1);
        b.trapped(3, 2, 1);
        b.look(Bench.PC, 112);
        b.register(Bench.A, 7, 0);
        b.register(Bench.D, 7, 2);
        b.look(Bench.STATE, 2);
        b.area(16, 15 + 32, 121, 0, 1);
        b.lists(8, 16);
    }

    private static void returnAtDepthZero() {
        Bench b = Bench.ready("return at depth 0", 2).words(0, RETURN).go(1, 1);
        b.trapped(3, 3, 1);
        b.look(Bench.LINK, 33);
        b.register(Bench.D, 7, 3);
        b.look(Bench.PC, 112);
        b.x.put(112, RETURN);
        b.run(1, 1);
        b.trapped(3, 3, 2);
        b.look(Bench.LINK, 34);
    }

    private static void otherKind() {
        Bench b = Bench.ready("return of a lower one", 4).words(0, CALL, KEEP, RETURN).go(1, 3);
        b.trapped(3, 4, 1);
        b.register(Bench.A, 7, 2);
        b.register(Bench.D, 7, 4);
        b.look(Bench.PC, 112);
        b.look(Bench.LINK, 35);
        b.area(3, 2, 9);
        Bench leave = Bench.ready("leaving by a lower one", 4);
        leave.words(0, Bench.ins(25, 3), Bench.ins(25, 5), LEAVE).go(2, 3);
        leave.trapped(3, 4, 1);
        leave.look(Bench.PRIORITY, 5);
        leave.look(Bench.LINK, 3 + 32 + 256 * 5 + 4096);
        leave.register(Bench.A, 7, 2);
        Bench back = Bench.ready("lower of an upper one", 4).words(0, CALL, BACK).go(0, 2);
        back.trapped(3, 4, 1);
        back.register(Bench.A, 7, 1);
        back.look(Bench.STATE, 2);
        back.lists(2, 2);
    }

    /** With LINK's area none, what would bring back HALTS, and nothing else changes. */
    private static void noAreaToBringBack() {
        int[] links = {0, 25, 31, 32, 32 + 26, -32 + 25};
        int[] ops = {22, 24, 26};
        for (int link : links) {
            for (int op : ops) {
                Bench b = Bench.ready("no area for " + op, 5);
                b.words(0, Bench.ins(21, 1), Bench.ins(21, 1), Bench.ins(9, 7, 0, 0, 99), RETURN);
                b.go(2, 3);
                b.x.put(Bench.area(2), link);
                b.run(1, 1);
                b.look(Bench.LINK, link);
                b.look(Bench.PC, 99);
                b.x.put(99, Bench.ins(op, 0));
                long time = b.x.look(Bench.TIME);
                b.run(3, 1);
                b.due("TIME", b.x.look(Bench.TIME), time + 1);
                b.look(Bench.RUNS, 0);
                b.look(Bench.PC, 99);
                b.look(Bench.LINK, link);
                b.look(Bench.STATE, 2 + 8);
                b.register(Bench.A, 7, 1);
                b.untrapped();
            }
        }
    }

    private static void noAreaToKeep() {
        int[] frees = {0, 25, 31, 32, -1, 64 + 27};
        int[] ops = {21, 23, 25, 0, 27, 22};
        for (int free : frees) {
            for (int op : ops) {
                Bench b = Bench.ready("no free area for " + op, 1);
                b.words(0, KEEP, Bench.ins(op, 8));
                b.x.put(Bench.area(1), free);
                b.go(2, 1);
                b.look(Bench.FREE, free);
                b.x.halt();
                b.setA(7, 55);
                b.setD(7, 44);
                b.x.start(1, 2, false);
                b.run(300, 1);
                b.look(Bench.RUNS, 0);
                b.look(Bench.PC, 1);
                b.look(Bench.LINK, 1);
                b.look(Bench.STATE, 2);
                b.look(Bench.PRIORITY, 0);
                b.look(Bench.ENABLED, 0);
                b.register(Bench.A, 7, 55);
                b.register(Bench.D, 7, 44);
                b.untrapped();
            }
        }
    }

    private static void wholeWordsInTheLists() {
        Bench b = Bench.ready("whole words", 3).words(0, KEEP, BACK, KEEP);
        b.x.put(Bench.area(1), 2 + 32 * 1000);
        b.go(1, 1);
        b.look(Bench.FREE, 2 + 32 * 1000);
        b.lists(2, 1);
        b.run(1, 1);
        b.look(Bench.FREE, 1);
        b.area(1, 2 + 32 * 1000);
        b.run(1, 1);
        b.look(Bench.FREE, 2 + 32 * 1000);
        b.words(3, KEEP);
        b.run(1, 1);
        b.look(Bench.LINK, 2);
        b.look(Bench.FREE, 3);
    }
}
