/** Terms: a STEP, with its time and timer, its interrupt, and the word at PC. */
public final class StepTest {
    private static final int WAIT = Bench.ins(18, 0);
    private static final int COUNT = Bench.ins(2, 0, 0, 0, 1);

    public static void main(String[] args) {
        timeGrowsByOne();
        timerAsksAtMultiples();
        timerThatIsPendingStaysSo();
        timerAsksInAStepThatHalts();
        timerAsksBeforeTheInterruptIsTaken();
        interruptsAbovePriority();
        notWithoutEnabled();
        onlyTheGreatestIsTaken();
        anInterruptIsTheWholeStep();
        anInterruptThatHalts();
        tookAndAsksAgain();
        pcThatIsNoAddress();
        wordsHaveTheirParts();
        Bench.end();
    }

    /** "TIME grows by 1", in each step, of whatever kind, and only there. */
    private static void timeGrowsByOne() {
        Bench b = Bench.ready("time", 9).words(0, COUNT, 0, Bench.ins(31, 0)).words(108, Bench.ins(26, 0));
        b.words(200, Bench.ins(26, 0));
        b.x.start(0, 2, false);
        for (int time = 0; time <= 2; time++) {
            b.look(Bench.TIME, time);
            b.run(0, 0);
            b.run(1, 1);
        }
        b.x.halt();
        b.look(Bench.TIME, 3);
        b.x.request(15);
        b.x.start(2, 2, true);
        b.look(Bench.TIME, 3);
        b.run(1, 1);
        b.look(Bench.TIME, 4);
        b.run(300, 2);
        b.look(Bench.TIME, 6);
        b.run(300, 0);
        b.look(Bench.TIME, 6);
    }

    /** "If the TIMER is above 0 and TIME a multiple of it": every n at every time. */
    private static void timerAsksAtMultiples() {
        for (int n = 0; n <= 12; n++) {
            for (int time = 1; time <= 30; time++) {
                Bench b = Bench.ready("timer " + n + " at " + time, 1).words(0, WAIT);
                b.go(0, time - 1);
                b.x.timer(n, 5);
                b.look(Bench.PENDING, 0);
                b.run(1, 1);
                b.look(Bench.PENDING, n > 0 && time % n == 0 ? 32 : 0);
            }
        }
        for (int n : new int[] {299, 300, 301, 600, 601, Integer.MAX_VALUE}) {
            Bench b = Bench.ready("timer " + n, 1).words(0, WAIT);
            b.x.timer(n, 15);
            b.go(0, 299);
            b.look(Bench.PENDING, n == 299 ? 1 << 15 : 0);
            b.run(1, 1);
            b.look(Bench.PENDING, n <= 300 ? 1 << 15 : 0);
            b.run(300, 300);
            b.look(Bench.PENDING, n <= 600 ? 1 << 15 : 0);
        }
    }

    private static void timerThatIsPendingStaysSo() {
        Bench b = Bench.ready("timer, pending", 1).words(0, WAIT);
        b.x.timer(1, 4);
        b.x.request(4);
        b.x.request(1);
        b.x.start(0, 0, false);
        b.step("a step", seen -> seen.set(Bench.PENDING, 16 + 2));
        b.step("a step", seen -> seen.set(Bench.PENDING, 16 + 2));
    }

    /** Time and timer come first in a step: what HALTS comes behind them. */
    private static void timerAsksInAStepThatHalts() {
        int[] words = {Bench.ins(31, 0), 0, Bench.ins(23, 0), Bench.ins(24, 0)};
        for (int word : words) {
            Bench b = Bench.ready("timer in a step that HALTS", 0).words(0, word);
            b.x.timer(1, 4);
            b.x.start(0, 2, false);
            b.step("a step", seen -> seen.halted().set(Bench.PENDING, 16));
        }
        Bench taken = Bench.ready("timer in a step whose interrupt HALTS", 0).words(0, WAIT);
        taken.x.timer(1, 4);
        taken.x.start(0, 2, true);
        taken.step("a step", seen -> seen.halted().set(Bench.PENDING, 16));
    }

    private static void timerAsksBeforeTheInterruptIsTaken() {
        Bench b = Bench.ready("timer, at once", 3).filled().words(0, COUNT);
        b.x.timer(18, 4);
        b.x.start(0, 1, true);
        b.step("time 17", seen -> seen.d(0, 11).pc(1));
        b.words(1, COUNT);
        b.step("time 18", seen -> seen.interrupt(4, 1));
        b.look(Bench.TIME, 18);
    }

    /** "If ENABLED and the greatest PENDING one, p, is above PRIORITY", for all of both. */
    private static void interruptsAbovePriority() {
        for (int priority = 0; priority <= 15; priority++) {
            for (int p = 1; p <= 15; p++) {
                priority(priority, p);
            }
        }
    }

    private static void priority(int priority, int p) {
        Bench b = Bench.ready("interrupt " + p + " at priority " + priority, 5).filled();
        b.words(0, Bench.ins(25, priority), COUNT);
        b.x.start(0, 2, false);
        b.run(1, 1);
        b.x.request(p);
        b.step("a step", seen -> {
            if (p > priority) {
                seen.interrupt(p, 2);
            } else {
                seen.d(0, 11).pc(2);
            }
        });
    }

    private static void notWithoutEnabled() {
        Bench b = Bench.ready("not enabled", 5).words(0, COUNT, Bench.ins(28, 1), COUNT);
        for (int p = 1; p <= 15; p++) {
            b.x.request(p);
        }
        b.x.start(0, 2, false);
        b.step("not enabled", seen -> seen.d(0, 1).pc(1));
        b.step("becomes enabled", seen -> seen.set(Bench.ENABLED, 1).pc(2));
        b.step("enabled", seen -> seen.interrupt(15, 1));
        b.words(200, COUNT);
        b.step("not enabled in the handler", seen -> seen.d(0, 2).pc(201));
    }

    private static void onlyTheGreatestIsTaken() {
        for (int p = 2; p <= 15; p++) {
            int greatest = p;
            Bench b = Bench.ready("the greatest, " + p, 5).words(0, COUNT);
            b.x.request(1);
            b.x.request(p);
            b.x.request(p - 1);
            b.x.start(0, 0, true);
            b.step("a step", seen -> seen.interrupt(greatest, 1));
            b.look(Bench.PENDING, p == 2 ? 2 : 2 | 1 << p - 1);
        }
    }

    /** "That is the whole step": neither the word at PC is done nor is it looked at. */
    private static void anInterruptIsTheWholeStep() {
        int[] words = {0, Bench.ins(31, 0), COUNT, Bench.ins(27, 3), Bench.ins(21, 7)};
        for (int word : words) {
            Bench b = Bench.ready("the whole step", 5).filled().words(0, word);
            b.x.request(7);
            b.x.start(0, 2, true);
            b.step("a step", seen -> seen.interrupt(7, 1));
        }
        for (int pc : new int[] {-1, 512, 40}) {
            Bench b = Bench.ready("the whole step at " + pc, 5).filled();
            b.x.guard(true);
            b.x.request(7);
            b.x.start(pc, 0, true);
            b.step("a step", seen -> seen.interrupt(7, 1));
            b.untrapped();
        }
    }

    /** "If that HALTS, p stays PENDING and is not taken." */
    private static void anInterruptThatHalts() {
        for (int n = 0; n <= 1; n++) {
            boolean halts = n == 0;
            Bench b = Bench.ready("interrupt with " + n + " areas", n).filled().words(0, COUNT);
            b.x.request(7);
            b.x.request(3);
            b.x.start(0, 1, true);
            b.step("a step", seen -> {
                if (halts) {
                    seen.halted();
                } else {
                    seen.interrupt(7, 1);
                }
            });
            b.look(Bench.PENDING, halts ? 128 + 8 : 8);
            b.look(Bench.TAKEN, halts ? 0 : 1);
            if (halts) {
                b.x.pool(1, 31);
                b.x.start(0, 1, true);
                b.step("with an area", seen -> seen.interrupt(7, 1));
            }
        }
    }

    private static void tookAndAsksAgain() {
        Bench b = Bench.ready("asks again", 5).words(0, WAIT);
        b.due("request(7)", b.x.request(7), true);
        b.due("request(7)", b.x.request(7), false);
        b.x.start(0, 1, true);
        b.run(1, 1);
        b.due("request(7), taken", b.x.request(7), true);
        b.due("request(7)", b.x.request(7), false);
        b.look(Bench.PENDING, 128);
    }

    /** "TRAP 4, 1 if PC is no address", guarded or not. */
    private static void pcThatIsNoAddress() {
        int[] pcs = {0, 1, 510, 511, 512, 513, -1, -2, Integer.MIN_VALUE, Integer.MAX_VALUE};
        for (int pc : pcs) {
            for (int level = 0; level <= 2; level++) {
                Bench b = Bench.ready("PC " + pc, 3).filled();
                b.x.put(pc, COUNT);
                b.x.guard(level == 1);
                b.x.range(0, 2, 0, 512, 0);
                b.x.start(pc, level, false);
                b.step("a step", seen -> {
                    if (pc >= 0 && pc <= 511) {
                        seen.d(0, 11).pc(pc + 1);
                    } else {
                        seen.trap(4, 1, 1, pc);
                    }
                });
            }
        }
    }

    /** "op = w & 31, a = w >> 5 & 7, b = w >> 8 & 7, c = w >> 11 & 7, i = w >> 16." */
    private static void wordsHaveTheirParts() {
        for (int k = 0; k < 512; k++) {
            int a = k & 7;
            int b = k >> 3 & 7;
            int c = k >> 6;
            Bench three = Bench.ready("parts " + a + b + c, 1).filled();
            three.x.put(0, 4 + 32 * a + 256 * b + 2048 * c + 49152 * (k & 1));
            three.x.start(0, 0, false);
            three.run(1, 1);
            three.register(Bench.D, a, b - c);
        }
        int[] amounts = {0, 1, -1, 255, 256, 32766, 32767, -32767, -32768};
        for (int i : amounts) {
            Bench b = Bench.ready("i " + i, 1).filled().words(0, i * 65536 + 65535 - 31 + 1 - 7 * 32);
            b.x.start(0, 0, false);
            b.step("a step", seen -> seen.d(0, i).pc(1));
        }
    }
}
