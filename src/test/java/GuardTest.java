/** Promises 4 (tables), 5 (range) and 6 (guard), and what is guarded. */
public final class GuardTest {
    private static final int READ_AT_A1 = Bench.ins(13, 2, 1, 0, 0);
    private static final int WRITE_AT_A1 = Bench.ins(14, 2, 1, 0, 0);

    public static void main(String[] args) {
        tables();
        for (int rights = 0; rights <= 3; rights++) {
            data(rights);
        }
        dataOfBothRanges();
        code();
        oddRanges();
        codeIsNoData();
        topLevelAndOff();
        setsApart();
        addressBeforeGuard();
        contextsAreNotGuarded();
        wrongRanges();
        Bench.end();
    }

    private static void tables() {
        int[] tables = {0, 100, 488, -16, Integer.MAX_VALUE, Integer.MIN_VALUE};
        for (int table : tables) {
            Bench b = Bench.ready("tables " + table, 4);
            b.x.tables(table, table + 1);
            b.go(2, 1);
            b.look(Bench.PC, table + 8);
            b.x.halt();
            b.words(0, Bench.ins(18, 0));
            b.x.request(15);
            b.x.start(0, 0, true);
            b.run(1, 1);
            b.look(Bench.PC, table + 61);
        }
    }

    /** At level 0, guarded, with all code: one read or write where A1 leads. */
    private static void use(Bench b, int address, int word, int latest) {
        b.x.halt();
        b.x.pool(4, 31);
        b.setA(1, address);
        b.x.put(0, word);
        b.x.range(0, 2, 0, 512, 0);
        b.x.range(1, 2, 0, 512, 0);
        b.x.guard(true);
        int traps = b.x.look(Bench.TRAPS);
        b.go(0, 1);
        String what = "address " + address + (word == READ_AT_A1 ? " read" : " written");
        b.due(what + " traps", b.x.look(Bench.TRAPS), traps + (latest == 0 ? 0 : 1));
        if (latest != 0) {
            b.due(what, b.x.look(Bench.LATEST), latest);
        }
    }

    private static void data(int rights) {
        for (int range = 0; range <= 1; range++) {
            Bench b = Bench.ready("rights " + rights + " of range " + range, 4);
            b.x.range(0, range, 200, 203, rights);
            int read = (rights & 1) == 1 ? 0 : 0x12;
            int write = (rights & 2) == 2 ? 0 : 0x13;
            use(b, 199, READ_AT_A1, 0x12);
            use(b, 200, READ_AT_A1, read);
            use(b, 202, READ_AT_A1, read);
            use(b, 203, READ_AT_A1, 0x12);
            use(b, 199, WRITE_AT_A1, 0x13);
            use(b, 200, WRITE_AT_A1, write);
            use(b, 202, WRITE_AT_A1, write);
            use(b, 203, WRITE_AT_A1, 0x13);
        }
    }

    private static void dataOfBothRanges() {
        Bench b = Bench.ready("two ranges", 4);
        b.x.range(0, 0, 200, 206, 1);
        b.x.range(0, 1, 204, 210, 2);
        use(b, 203, WRITE_AT_A1, 0x13);
        use(b, 204, READ_AT_A1, 0);
        use(b, 205, WRITE_AT_A1, 0);
        use(b, 206, READ_AT_A1, 0x12);
        use(b, 206, WRITE_AT_A1, 0);
    }

    private static void code() {
        Bench b = Bench.ready("code", 20);
        b.x.range(0, 2, 1, 3, 3);
        b.x.range(0, 0, 0, 512, 3);
        b.x.guard(true);
        b.words(0, Bench.ins(1, 1), Bench.ins(1, 2), Bench.ins(1, 3), Bench.ins(1, 4));
        b.x.start(1, 1, false);
        b.run(3, 3);
        b.register(Bench.D, 0, 3);
        b.trapped(1, 4, 1);
        b.look(Bench.PC, 104);
        b.register(Bench.A, 7, 3);
        b.register(Bench.D, 7, 4);
        b.x.halt();
        b.x.start(0, 0, false);
        b.run(1, 1);
        b.register(Bench.D, 0, 3);
        b.trapped(1, 4, 2);
        b.x.halt();
        b.x.start(600, 0, false);
        b.run(1, 1);
        b.trapped(4, 1, 3);
        b.x.halt();
        b.x.range(0, 2, 0, 1, 0);
        b.x.start(0, 0, false);
        b.run(1, 1);
        b.register(Bench.D, 0, 1);
    }

    private static void oddRanges() {
        Bench b = Bench.ready("odd ranges", 4);
        b.x.range(0, 0, Integer.MIN_VALUE, Integer.MAX_VALUE, 1);
        use(b, 0, READ_AT_A1, 0);
        use(b, 511, READ_AT_A1, 0);
        b.x.range(0, 0, 0, Integer.MIN_VALUE, 3);
        use(b, 5, READ_AT_A1, 0x12);
        b.x.range(0, 0, 6, 5, 3);
        use(b, 5, READ_AT_A1, 0x12);
        use(b, 6, READ_AT_A1, 0x12);
        b.x.range(0, 0, 5, 5, 3);
        use(b, 5, READ_AT_A1, 0x12);
    }

    /** The rights of a code range let nothing be read or written. */
    private static void codeIsNoData() {
        Bench b = Bench.ready("code is no data", 4).words(0, READ_AT_A1);
        for (int rights = 0; rights <= 3; rights++) {
            b.x.range(0, 2, 0, 512, rights);
            b.x.guard(true);
            b.x.pool(4, 31);
            b.x.put(0, rights < 2 ? READ_AT_A1 : WRITE_AT_A1);
            b.go(1, 1);
            b.trapped(1, rights < 2 ? 2 : 3, rights + 1);
            b.x.halt();
        }
    }

    private static void topLevelAndOff() {
        Bench b = Bench.ready("guard off", 4);
        b.words(0, READ_AT_A1, WRITE_AT_A1, Bench.ins(30, 1), READ_AT_A1);
        b.x.guard(true);
        b.go(2, 2);
        b.untrapped();
        b.x.guard(false);
        b.run(2, 2);
        b.untrapped();
        b.x.halt();
        b.x.guard(true);
        b.go(2, 3);
        b.untrapped();
        b.run(1, 1);
        b.trapped(1, 4, 1);
    }

    private static void setsApart() {
        Bench b = Bench.ready("sets", 4);
        b.words(0, Bench.ins(29, 1), Bench.ins(30, 1), READ_AT_A1, WRITE_AT_A1);
        b.x.range(0, 0, 0, 512, 3);
        b.x.range(0, 2, 0, 512, 3);
        b.x.range(1, 2, 0, 512, 0);
        b.x.guard(true);
        b.go(2, 3);
        b.trapped(1, 2, 1);
        b.x.halt();
        b.x.range(1, 1, 0, 1, 1);
        b.go(2, 4);
        b.trapped(1, 3, 2);
        b.x.halt();
        b.x.range(1, 2, 0, 2, 0);
        b.go(2, 3);
        b.trapped(1, 4, 3);
    }

    private static void addressBeforeGuard() {
        Bench b = Bench.ready("no address", 4);
        int[] none = {-1, 512, Integer.MIN_VALUE, Integer.MAX_VALUE};
        for (int address : none) {
            use(b, address, READ_AT_A1, 0x41);
            use(b, address, WRITE_AT_A1, 0x41);
        }
        b.x.range(0, 0, -10, 10, 3);
        use(b, -1, READ_AT_A1, 0x41);
    }

    private static void contextsAreNotGuarded() {
        Bench b = Bench.ready("contexts", 4);
        b.words(0, Bench.ins(23, 0), Bench.ins(24, 0), Bench.ins(21, 1), Bench.ins(22, 0));
        b.x.range(0, 2, 0, 100, 0);
        b.x.guard(true);
        b.go(0, 4);
        b.untrapped();
        b.lists(4, 0);
    }

    private static void wrongRanges() {
        Bench b = Bench.ready("wrong range", 4);
        b.x.range(0, 0, 100, 101, 3);
        b.x.range(1, 2, 100, 101, 3);
        int[][] wrong = {
            {-1, 0, 1}, {2, 0, 1}, {0, -1, 1}, {0, 3, 1}, {0, 0, -1}, {0, 0, 4}, {1, 2, 4}, {1, 2, -1},
            {-1, 3, 1}, {Integer.MIN_VALUE, 0, 0}, {0, Integer.MAX_VALUE, 0},
        };
        for (int[] one : wrong) {
            b.throwing("range", IllegalArgumentException.class,
                () -> b.x.range(one[0], one[1], 0, 512, one[2]));
        }
        use(b, 99, READ_AT_A1, 0x12);
        use(b, 100, READ_AT_A1, 0);
        b.x.halt();
        b.words(0, Bench.ins(29, 1), Bench.ins(30, 1));
        b.x.range(1, 2, 0, 2, 0);
        b.throwing("range", IllegalArgumentException.class, () -> b.x.range(1, 2, 0, 512, 4));
        b.go(2, 3);
        b.due("latest", b.x.look(Bench.LATEST), 0x14);
    }
}
