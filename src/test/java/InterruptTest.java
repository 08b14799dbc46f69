/** Promises 7 (timer) and 8 (request), and how interrupts are taken. */
public final class InterruptTest {
    private static final int WAIT = Bench.ins(18, 0);

    public static void main(String[] args) {
        requests();
        timerAsks();
        timerChanges();
        wrongTimers();
        taking();
        greatestFirst();
        onlyAbovePriority();
        noAreaToTakeIt();
        openHandler();
        Bench.end();
    }

    private static void requests() {
        Bench b = new Bench("request");
        int pending = 0;
        for (int p = 1; p <= 15; p++) {
            b.due("request(" + p + ")", b.x.request(p), true);
            b.due("request(" + p + ")", b.x.request(p), false);
            pending += 1 << p;
            b.look(Bench.PENDING, pending);
        }
        int[] none = {0, -1, 16, 17, 31, 32, 33, -31, Integer.MIN_VALUE, Integer.MAX_VALUE};
        Bench other = new Bench("no such request");
        for (int p : none) {
            other.due("request(" + p + ")", other.x.request(p), false);
        }
        other.look(Bench.PENDING, 0);
    }

    private static void timerAsks() {
        Bench b = Bench.ready("timer", 4).words(0, WAIT);
        b.x.timer(3, 5);
        b.go(2, 2);
        b.look(Bench.PENDING, 0);
        b.run(1, 1);
        b.look(Bench.PENDING, 32);
        b.run(1, 1);
        b.look(Bench.PENDING, 32);
        b.look(Bench.TIME, 4);
        Bench one = Bench.ready("timer 1", 4).words(0, WAIT);
        one.x.timer(1, 15);
        one.x.start(0, 2, true);
        one.run(1, 1);
        one.look(Bench.PENDING, 0);
        one.look(Bench.TAKEN, 1);
        one.look(Bench.PC, 200);
    }

    private static void timerChanges() {
        Bench b = Bench.ready("timer changes", 4).words(0, WAIT);
        b.x.timer(300, 1);
        b.go(2, 5);
        b.x.timer(3, 2);
        b.run(1, 1);
        b.look(Bench.PENDING, 4);
        b.x.timer(0, 3);
        b.run(300, 300);
        b.look(Bench.PENDING, 4);
        b.x.timer(Integer.MAX_VALUE, 4);
        b.run(300, 300);
        b.look(Bench.PENDING, 4);
        b.x.halt();
        b.x.timer(607, 6);
        b.x.start(0, 0, false);
        b.run(1, 1);
        b.look(Bench.PENDING, 68);
    }

    private static void wrongTimers() {
        Bench b = Bench.ready("wrong timer", 4).words(0, WAIT);
        b.x.timer(2, 5);
        int[][] wrong = {{-1, 5}, {Integer.MIN_VALUE, 1}, {1, 0}, {1, 16}, {0, 0}, {0, 16}, {1, -1}};
        for (int[] one : wrong) {
            b.throwing("timer", IllegalArgumentException.class, () -> b.x.timer(one[0], one[1]));
        }
        b.go(2, 1);
        b.look(Bench.PENDING, 0);
        b.run(1, 1);
        b.look(Bench.PENDING, 32);
    }

    private static void taking() {
        Bench b = Bench.ready("taking", 4).words(3, WAIT).words(168, Bench.ins(26, 0));
        b.setA(7, 77);
        b.setD(7, 66);
        b.x.request(7);
        int time = b.x.look(Bench.TIME);
        b.x.start(3, 1, true);
        b.run(1, 1);
        b.look(Bench.TIME, time + 1);
        b.look(Bench.PC, 168);
        b.look(Bench.PENDING, 0);
        b.look(Bench.TAKEN, 1);
        b.look(Bench.PRIORITY, 7);
        b.look(Bench.ENABLED, 0);
        b.look(Bench.STATE, 2);
        b.look(Bench.LINK, 1 + 32 + 4096);
        b.register(Bench.A, 7, 3);
        b.register(Bench.D, 7, 66);
        b.area(1, 0, 1, 0, 77, 0, 0, 0, 66);
        b.untrapped();
        b.run(1, 1);
        b.look(Bench.PC, 3);
        b.look(Bench.PRIORITY, 0);
        b.look(Bench.ENABLED, 1);
        b.look(Bench.STATE, 1);
        b.look(Bench.LINK, 0);
        b.register(Bench.A, 7, 77);
    }

    private static void greatestFirst() {
        Bench b = Bench.ready("greatest first", 9).words(0, WAIT);
        for (int p = 1; p <= 15; p++) {
            b.words(140 + 4 * p, Bench.ins(26, 0));
            b.x.request(p);
        }
        b.x.start(0, 0, true);
        for (int p = 15; p >= 1; p--) {
            b.run(1, 1);
            b.look(Bench.PC, 140 + 4 * p);
            b.look(Bench.PRIORITY, p);
            b.look(Bench.PENDING, (1 << p) - 2);
            b.run(1, 1);
        }
        b.look(Bench.TAKEN, 15);
        b.run(1, 1);
        b.look(Bench.PC, 0);
    }

    private static void onlyAbovePriority() {
        Bench b = Bench.ready("above priority", 9);
        b.words(0, WAIT).words(160, Bench.ins(28, 1), WAIT);
        b.x.request(5);
        b.x.start(0, 0, true);
        b.run(1, 1);
        b.x.request(5);
        b.x.request(4);
        b.run(3, 3);
        b.look(Bench.PC, 161);
        b.look(Bench.PENDING, 48);
        b.look(Bench.ENABLED, 1);
        b.x.request(6);
        b.run(1, 1);
        b.look(Bench.PC, 164);
        b.look(Bench.PRIORITY, 6);
        b.look(Bench.LINK, 2 + 32 + 256 * 5 + 4096);
        b.look(Bench.TAKEN, 2);
        b.x.request(15);
        b.words(164, WAIT);
        b.run(2, 2);
        b.look(Bench.TAKEN, 2);
        b.look(Bench.PC, 164);
    }

    private static void noAreaToTakeIt() {
        for (int n = 0; n <= 1; n++) {
            Bench b = Bench.ready("no area", n).words(0, WAIT);
            if (n == 1) {
                b.words(0, Bench.ins(23, 0)).go(2, 1);
                b.x.halt();
                b.x.put(0, WAIT);
            }
            b.setA(7, 9);
            b.x.request(3);
            b.x.start(2, 1, true);
            int time = b.x.look(Bench.TIME);
            b.run(5, 1);
            b.look(Bench.RUNS, 0);
            b.look(Bench.PC, 2);
            b.look(Bench.PENDING, 8);
            b.look(Bench.TAKEN, 0);
            b.look(Bench.PRIORITY, 0);
            b.look(Bench.ENABLED, 1);
            b.look(Bench.STATE, 1);
            b.look(Bench.TIME, time + 1);
            b.register(Bench.A, 7, 9);
        }
    }

    private static void openHandler() {
        Bench b = Bench.ready("open handler", 9).words(0, WAIT);
        b.words(160, Bench.ins(25, 16 + 3), WAIT);
        b.x.request(5);
        b.x.start(0, 0, true);
        b.run(2, 2);
        b.look(Bench.PRIORITY, 3);
        b.look(Bench.ENABLED, 1);
        b.look(Bench.LINK, 2 + 256 * 5);
        b.look(Bench.PC, 161);
        b.x.request(3);
        b.run(1, 1);
        b.look(Bench.TAKEN, 1);
        b.x.request(4);
        b.run(1, 1);
        b.look(Bench.TAKEN, 2);
        b.look(Bench.LINK, 3 + 32 + 256 * 3 + 4096);
    }
}
