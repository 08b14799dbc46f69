/** Instructions 1 to 20: registers, words and jumps. */
public final class ComputeTest {
    private static final int[] VALUES = {
        0, 1, -1, 2, 7, -300, 65535, 65536, 123456789, Integer.MIN_VALUE, Integer.MAX_VALUE,
    };
    private static final int[] AMOUNTS = {0, 1, -1, 5, 31, 32, 33, -31, -32, -33, 32767, -32768};

    public static void main(String[] args) {
        twoRegisters();
        amounts();
        addressRegisters();
        decoding();
        words();
        growing();
        rings();
        wrongRings();
        jumps();
        trapsDoNothingElse();
        pcAtTheEnd();
        Bench.end();
    }

    private static void twoRegisters() {
        for (int x : VALUES) {
            Bench b = Bench.ready("two registers", 1);
            b.setD(2, x);
            b.words(0, Bench.ins(3, 0, 2, 5, -1), Bench.ins(4, 1, 2, 5, 1), Bench.ins(5, 3, 2, 5, 9));
            b.words(3, Bench.ins(6, 4, 2, 5, 0), Bench.ins(7, 6, 2, 5, -9));
            for (int y : VALUES) {
                b.setD(5, y);
                b.go(0, 5);
                b.x.halt();
                b.register(Bench.D, 0, x + y);
                b.register(Bench.D, 1, x - y);
                b.register(Bench.D, 3, x * y);
                b.register(Bench.D, 4, x & y);
                b.register(Bench.D, 6, x ^ y);
            }
        }
    }

    private static void amounts() {
        for (int x : VALUES) {
            Bench b = Bench.ready("amounts of " + x, 1);
            b.setD(3, x);
            for (int i : AMOUNTS) {
                b.words(0, Bench.ins(1, 1, 3, 3, i), Bench.ins(2, 2, 3, 3, i), Bench.ins(8, 4, 3, 3, i));
                b.go(0, 3);
                b.look(Bench.PC, 3);
                b.x.halt();
                b.register(Bench.D, 1, i);
                b.register(Bench.D, 2, x + i);
                b.register(Bench.D, 4, i < 0 ? x >> -i : x << i);
            }
        }
        Bench b = Bench.ready("shifts", 1);
        b.setD(1, -20);
        b.words(0, Bench.ins(8, 2, 1, 0, 3), Bench.ins(8, 3, 1, 0, -3)).go(0, 2);
        b.register(Bench.D, 2, -160);
        b.register(Bench.D, 3, -3);
    }

    private static void addressRegisters() {
        for (int x : VALUES) {
            Bench b = Bench.ready("addresses of " + x, 1);
            b.setA(3, x);
            b.setD(6, x + 3);
            for (int i : AMOUNTS) {
                b.words(0, Bench.ins(9, 1, 3, 3, i), Bench.ins(10, 2, 3, 3, i));
                b.words(2, Bench.ins(11, 4, 6, 3, i), Bench.ins(12, 5, 3, 6, i)).go(0, 4);
                b.x.halt();
                b.register(Bench.A, 1, i);
                b.register(Bench.A, 2, x + i);
                b.register(Bench.A, 4, x + 3);
                b.register(Bench.D, 5, x);
            }
        }
    }

    /** Every register by every field; bits 14 and 15 mean nothing. */
    private static void decoding() {
        for (int a = 0; a < 8; a++) {
            Bench b = Bench.ready("decoding", 1);
            for (int k = 0; k < 8; k++) {
                b.words(k, Bench.ins(1, k, 0, 0, 1 << k));
            }
            int other = a + 3 & 7;
            int third = a + 5 & 7;
            b.words(8, Bench.ins(3, a, other, third, 0) | 3 << 14).go(0, 9);
            for (int k = 0; k < 8; k++) {
                b.register(Bench.D, k, k == a ? (1 << other) + (1 << third) : 1 << k);
            }
        }
    }

    private static void words() {
        Bench b = Bench.ready("words", 1).words(200, 71, 72, 73);
        b.words(0, Bench.ins(9, 2, 0, 0, 201), Bench.ins(13, 3, 2, 0, -1), Bench.ins(13, 4, 2, 0, 1));
        b.words(3, Bench.ins(14, 3, 2, 0, 10), Bench.ins(14, 4, 2, 0, -10), Bench.ins(13, 5, 2, 0, 0));
        b.go(0, 6);
        b.register(Bench.D, 3, 71);
        b.register(Bench.D, 4, 73);
        b.register(Bench.D, 5, 72);
        b.register(Bench.A, 2, 201);
        b.word(211, 71);
        b.word(191, 73);
        b.word(201, 72);
        b.untrapped();
        Bench edge = Bench.ready("words at the edge", 1).words(511, 5);
        edge.words(0, Bench.ins(9, 1, 0, 0, 511), Bench.ins(13, 1, 1, 0, 0), Bench.ins(14, 1, 1, 0, -511));
        edge.go(0, 3);
        edge.word(0, 5);
        edge.untrapped();
        Bench below = Bench.ready("words from below", 1).words(300, 44);
        below.setA(1, -20);
        below.words(0, Bench.ins(13, 1, 1, 0, 320), Bench.ins(13, 1, 1, 0, 19)).go(0, 2);
        below.register(Bench.D, 1, 44);
        below.trapped(4, 1, 1);
        Bench wrap = Bench.ready("words, wrapped", 1);
        wrap.setA(1, Integer.MAX_VALUE);
        wrap.words(0, Bench.ins(13, 1, 1, 0, 1)).go(0, 1);
        wrap.trapped(4, 1, 1);
    }

    private static void growing() {
        Bench b = Bench.ready("growing", 1).words(200, 71, 72, 73);
        b.words(0, Bench.ins(9, 2, 0, 0, 200), Bench.ins(15, 3, 2, 0, 2), Bench.ins(15, 4, 2, 0, -1));
        b.words(3, Bench.ins(16, 3, 2, 0, -300), Bench.ins(31, 0)).go(2, 4);
        b.register(Bench.D, 3, 71);
        b.register(Bench.D, 4, 73);
        b.register(Bench.A, 2, -99);
        b.word(201, 71);
        b.word(200, 71);
        b.untrapped();
    }

    private static void ring(int n, int x, int i, int want) {
        Bench b = Bench.ready("ring " + n + ", " + x + ", " + i, 1);
        b.setA(4, n * 65536 + x);
        b.setA(3, 100 - x);
        b.words(100, 1234).words(0, Bench.ins(17, 6, 3, 0, i)).go(0, 1);
        b.register(Bench.D, 6, 1234);
        b.register(Bench.A, 4, n * 65536 + want);
        b.register(Bench.A, 3, 100 - x);
        b.look(Bench.PC, 1);
        b.untrapped();
    }

    private static void rings() {
        ring(5, 0, 1, 1);
        ring(5, 4, 1, 0);
        ring(5, 3, 12, 0);
        ring(5, 0, -1, 4);
        ring(5, 2, -9, 3);
        ring(5, 2, -2, 0);
        ring(1, 0, 32767, 0);
        ring(1, 0, -32768, 0);
        ring(65535, 65534, 32767, 32766);
        ring(65535, 0, -32768, 32767);
        ring(40000, 39999, 0, 39999);
        Bench b = Bench.ready("ring of A0", 1);
        b.setA(7, 100);
        b.words(448, Bench.ins(9, 510), Bench.ins(13, 0), Bench.ins(11, 0));
        b.words(510, 3 * 65536 + 2).words(0, Bench.ins(17, 5, 7, 0, 1)).words(102, 55);
        b.x.start(448, 2, false);
        b.run(3, 3);
        b.x.halt();
        b.go(0, 1);
        b.register(Bench.D, 5, 55);
        b.register(Bench.A, 0, 3 * 65536);
    }

    private static void wrongRings() {
        int[][] wrong = {
            {0, 0, 2}, {0, 1, 2}, {5, 5, 2}, {5, 6, 2}, {65535, 65535, 2}, {0, 9000, 2}, {9, 8, 4},
        };
        for (int[] one : wrong) {
            Bench b = Bench.ready("wrong ring", 1);
            int ring = one[0] * 65536 + one[1];
            b.setA(4, ring);
            b.setA(3, 504);
            b.setD(6, 88);
            b.words(0, Bench.ins(17, 6, 3, 0, 1)).go(0, 1);
            b.trapped(one[2], one[2] == 2 ? 2 : 1, 1);
            b.register(Bench.A, 4, ring);
            b.register(Bench.D, 6, 88);
        }
        Bench guarded = Bench.ready("guarded ring", 4);
        guarded.setA(4, 2 * 65536 + 1);
        guarded.setA(3, 200);
        guarded.words(0, Bench.ins(17, 6, 3, 0, 1)).words(201, 6);
        guarded.x.range(0, 2, 0, 512, 0);
        guarded.x.range(0, 0, 200, 201, 1);
        guarded.x.guard(true);
        guarded.go(0, 1);
        guarded.trapped(1, 2, 1);
        guarded.x.halt();
        guarded.x.range(0, 1, 201, 202, 1);
        guarded.go(0, 1);
        guarded.register(Bench.D, 6, 6);
    }

    private static void jump(int op, int da, int db, int i, boolean jumps) {
        Bench b = Bench.ready("jump " + op + " for " + da + ", " + db, 1);
        b.setD(1, da);
        b.setD(2, db);
        b.words(50, Bench.ins(op, 1, 2, 3, i));
        b.x.start(50, 0, false);
        b.run(1, 1);
        b.look(Bench.PC, jumps ? 50 + i : 51);
        b.untrapped();
    }

    private static void jumps() {
        jump(18, 0, 0, 7, true);
        jump(18, 1, 0, -7, true);
        jump(18, 5, 6, -32768, true);
        jump(19, 0, 5, 9, true);
        jump(19, 0, -5, 0, true);
        jump(19, 1, 5, 9, false);
        jump(19, -1, 0, 9, false);
        jump(20, 1, 2, 9, true);
        jump(20, -1, 0, -9, true);
        jump(20, Integer.MIN_VALUE, Integer.MAX_VALUE, 9, true);
        jump(20, 2, 2, 9, false);
        jump(20, 0, 0, 9, false);
        jump(20, 3, 2, 9, false);
        jump(20, Integer.MAX_VALUE, Integer.MIN_VALUE, 9, false);
    }

    private static void trapsDoNothingElse() {
        int[] ops = {13, 14, 15, 16};
        for (int op : ops) {
            Bench b = Bench.ready("trap of " + op, 3);
            b.setA(1, 600);
            b.setD(2, 42);
            b.words(0, Bench.ins(op, 2, 1, 0, 100)).go(0, 1);
            b.trapped(4, 1, 1);
            b.look(Bench.PC, 116);
            b.register(Bench.A, 1, 600);
            b.register(Bench.A, 7, 0);
            b.register(Bench.D, 2, 42);
        }
    }

    private static void pcAtTheEnd() {
        Bench b = Bench.ready("last address", 3).words(511, Bench.ins(1, 3));
        b.x.start(511, 0, false);
        b.run(1, 1);
        b.look(Bench.PC, 512);
        b.untrapped();
        b.run(1, 1);
        b.trapped(4, 1, 1);
        b.look(Bench.PC, 116);
        b.register(Bench.A, 7, 512);
        b.register(Bench.D, 7, 1);
        Bench below = Bench.ready("below", 3).words(0, Bench.ins(18, -3)).go(0, 2);
        below.trapped(4, 1, 1);
        below.register(Bench.A, 7, -3);
    }
}
