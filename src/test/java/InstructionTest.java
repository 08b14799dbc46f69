/** Terms: the instructions 0 to 31, each with all that it changes, at the edges that it names. */
public final class InstructionTest {
    private static final int AT = 40;
    private static final int[] AMOUNTS = {0, 1, 2, -1, -2, 15, 16, 17, 255, 256, 32767, -32768};

    public static void main(String[] args) {
        computing();
        sumsWrap();
        shifts();
        wordsAtTheEdges();
        growing();
        rings();
        ringsOfEachRegister();
        atTheLastAddress();
        ringBeforeTheWord();
        jumps();
        calls();
        returns();
        returnLooksAtDepthFirst();
        leavingLooksAtTheLevelFirst();
        openingHandlers();
        noInstruction();
        askedTraps();
        bitsOfTheAmount();
        changingTheLevel();
        halting();
        onlyAtLevelTwo();
        Bench.end();
    }

    /** Before the instruction at 40, at this level, with five areas and filled registers. */
    private static Bench at(int level, int word) {
        Bench b = Bench.ready("word " + word + " at level " + level, 5).filled().words(AT, word);
        b.x.start(AT, level, false);
        return b;
    }

    /** D0 .. D7 are 10 .. 17, A0 .. A7 20 .. 27. */
    private static void compute(Seen seen, int op, int a, int b, int c, int i) {
        switch (op) {
            case 1: seen.d(a, i); break;
            case 2: seen.d(a, 10 + b + i); break;
            case 3: seen.d(a, 20 + b + c); break;
            case 4: seen.d(a, b - c); break;
            case 5: seen.d(a, (10 + b) * (10 + c)); break;
            case 6: seen.d(a, 10 + b & 10 + c); break;
            case 7: seen.d(a, 10 + b ^ 10 + c); break;
            case 8: seen.d(a, 10 + b << i); break;
            case 9: seen.a(a, i); break;
            case 10: seen.a(a, 20 + b + i); break;
            case 11: seen.a(a, 10 + b); break;
            default: seen.d(a, 20 + b); break;
        }
    }

    private static void computing() {
        for (int op = 1; op <= 12; op++) {
            for (int fields = 0; fields < 64; fields++) {
                computing(op, fields & 7, fields >> 3, fields * 5 + op & 7);
            }
        }
    }

    private static void computing(int op, int a, int b, int c) {
        at(op % 3, Bench.ins(op, a, b, c, 3)).step("a step", seen -> {
            compute(seen, op, a, b, c, 3);
            seen.pc(AT + 1);
        });
    }

    /** "Sums wrap", and so do differences and products: D6 of D2 and D5, or of D2 and i. */
    private static void sumsWrap() {
        int most = Integer.MAX_VALUE;
        int least = Integer.MIN_VALUE;
        int[][] rows = {
            {2, most, 0, 0, most}, {2, most, 0, 1, least}, {2, most, 0, 2, least + 1},
            {2, least, 0, 0, least}, {2, least, 0, -1, most}, {2, least, 0, -2, most - 1},
            {3, most, 0, 0, most}, {3, most, 1, 0, least}, {3, least, -1, 0, most},
            {3, most, most, 0, -2}, {3, least, least, 0, 0}, {3, most, least, 0, -1},
            {4, least, 0, 0, least}, {4, least, 1, 0, most}, {4, most, -1, 0, least},
            {4, 0, least, 0, least}, {4, -1, least, 0, most}, {4, least, most, 0, 1},
            {5, 65536, 32767, 0, 2147418112}, {5, 65536, 32768, 0, least}, {5, 65536, 65536, 0, 0},
            {5, 46341, 46341, 0, -2147479015}, {5, least, -1, 0, least}, {5, most, 2, 0, -2},
        };
        for (int[] row : rows) {
            Bench b = Bench.ready(row[0] + " of " + row[1] + ", " + row[2] + ", " + row[3], 1);
            b.setD(2, row[1]);
            b.setD(5, row[2]);
            b.words(AT, Bench.ins(row[0], 6, 2, 5, row[3]));
            b.x.start(AT, 0, false);
            b.step("a step", seen -> seen.d(6, row[4]).pc(AT + 1));
        }
        int[][] addresses = {{most, 1, least}, {least, -1, most}, {most, 0, most}, {-1, 1, 0}};
        for (int[] row : addresses) {
            Bench b = Bench.ready("10 of " + row[0] + ", " + row[1], 1);
            b.setA(2, row[0]);
            b.words(AT, Bench.ins(10, 6, 2, 5, row[1]));
            b.x.start(AT, 0, false);
            b.step("a step", seen -> seen.a(6, row[2]).pc(AT + 1));
        }
    }

    /** "Da = Db << i, or for i below 0 Db >> -i", the sign coming in from the left. */
    private static void shifts() {
        int[][] due = {
            {-20, 0, -20}, {-20, 1, -40}, {-20, -1, -10}, {-20, 2, -80}, {-20, -2, -5},
            {-20, -3, -3}, {-20, -4, -2}, {-20, -5, -1}, {-20, -31, -1}, {-20, 31, 0},
            {-19, 31, Integer.MIN_VALUE}, {20, -31, 0}, {20, -4, 1}, {20, -5, 0},
            {Integer.MIN_VALUE, 1, 0}, {Integer.MIN_VALUE, -31, -1}, {Integer.MAX_VALUE, -30, 1},
            {Integer.MAX_VALUE, 1, -2}, {1, 30, 1 << 30}, {1, 31, Integer.MIN_VALUE},
        };
        for (int[] one : due) {
            shift(one[0], one[1], one[2]);
        }
        // Java's shifts take the amount modulo 32, and the document writes them as Java's.
        shift(5, 32, 5);
        shift(5, 33, 10);
        shift(-20, -32, -20);
        shift(-20, -33, -10);
        shift(5, 32767, Integer.MIN_VALUE);
        shift(5, -32768, 5);
    }

    private static void shift(int v, int i, int due) {
        Bench b = Bench.ready("shift of " + v + " by " + i, 1);
        b.setD(2, v);
        b.words(AT, Bench.ins(8, 6, 2, 3, i));
        b.x.start(AT, 0, false);
        b.step("a step", seen -> seen.d(6, due).pc(AT + 1));
    }

    /** "TRAP 4, 1 if there is no such address", for the word at Ab + i. */
    private static void wordsAtTheEdges() {
        int[][] sums = {
            {0, 0}, {1, -1}, {0, -1}, {-1, 0}, {-1, 1}, {511, 0}, {511, 1}, {512, 0}, {512, -1},
            {510, 1}, {510, 2}, {-32767, 32767}, {-32768, 32767}, {32768, -32768}, {33279, -32768},
            {33280, -32768}, {Integer.MAX_VALUE, 1}, {Integer.MIN_VALUE, -1}, {Integer.MIN_VALUE, 0},
        };
        for (int[] sum : sums) {
            for (int op = 13; op <= 14; op++) {
                word(op, sum[0], sum[1], sum[0] + sum[1]);
            }
        }
    }

    /** The same word of 15 and 16 is at Ab, however much Ab grows. */
    private static void growing() {
        int[] addresses = {-1, 0, 1, 510, 511, 512, 513, Integer.MIN_VALUE, Integer.MAX_VALUE};
        for (int address : addresses) {
            for (int i : new int[] {0, 1, -1, 512, 32767, -32768}) {
                word(15, address, i, address);
                word(16, address, i, address);
            }
        }
    }

    private static void word(int op, int base, int i, int address) {
        Bench b = Bench.ready(op + " of " + base + ", " + i, 3);
        b.setA(3, base);
        b.setD(5, 555);
        b.words(AT, Bench.ins(op, 5, 3, 1, i));
        if (op == 13 || op == 15) {
            b.x.put(address, 777);
        }
        b.x.start(AT, 1, false);
        b.step("a step", seen -> {
            if (address < 0 || address > 511) {
                seen.trap(4, 1, 1, AT);
            } else if (op == 13 || op == 15) {
                seen.d(5, 777).pc(AT + 1).a(3, op == 15 ? base + i : base);
            } else {
                seen.word(address, 555).pc(AT + 1).a(3, op == 16 ? base + i : base);
            }
        });
    }

    /** A3 + x is 200; A4 holds n and x. */
    private static void ring(int n, int x, int i, int due) {
        Bench b = Bench.ready("ring of " + n + ", " + x + " by " + i, 3);
        b.setA(4, n << 16 | x);
        b.setA(3, 200 - x);
        b.setD(6, 66);
        b.words(200, 777).words(AT, Bench.ins(17, 6, 3, 5, i));
        b.x.start(AT, 0, false);
        b.step("a step", seen -> {
            if (due < 0) {
                seen.trap(2, 2, 1, AT);
            } else {
                seen.d(6, 777).a(4, n << 16 | due).pc(AT + 1);
            }
        });
    }

    /** "TRAP 2, 2 if n is 0 or x is not below n"; "x + i modulo n; not below 0". */
    private static void rings() {
        int[][] rows = {
            {0, 0, 0, -1}, {0, 0, 1, -1}, {0, 1, 1, -1}, {0, 65535, 1, -1},
            {1, 0, 0, 0}, {1, 0, 1, 0}, {1, 0, -1, 0}, {1, 1, 0, -1}, {1, 2, 0, -1},
            {5, 0, 0, 0}, {5, 3, 1, 4}, {5, 4, 0, 4}, {5, 4, 1, 0}, {5, 4, 2, 1}, {5, 5, 1, -1},
            {5, 6, 1, -1}, {5, 5, -1, -1}, {5, 0, 4, 4}, {5, 0, 5, 0}, {5, 0, 6, 1},
            {5, 0, -1, 4}, {5, 1, -1, 0}, {5, 1, -2, 4}, {5, 4, -4, 0}, {5, 4, -5, 4}, {5, 0, -5, 0},
            {5, 0, -6, 4}, {5, 2, -10, 2}, {5, 2, 32767, 4}, {5, 2, -32768, 4},
            {32768, 32767, 1, 0}, {32768, 32768, 0, -1}, {32768, 0, -32768, 0}, {40000, 39999, 32767, 32766},
            {65535, 65534, 0, 65534}, {65535, 65534, 1, 0}, {65535, 65535, 1, -1}, {65535, 0, -1, 65534},
            {65535, 65533, 1, 65534},
        };
        for (int[] row : rows) {
            ring(row[0], row[1], row[2], row[3]);
        }
    }

    /** The ring of Ab is in A((b + 1) & 7), that of A7 in A0. */
    private static void ringsOfEachRegister() {
        for (int b = 0; b < 8; b++) {
            int ring = b == 7 ? 0 : b + 1;
            Bench bench = Bench.ready("the ring of A" + b, 3).filled();
            bench.words(448, Bench.ins(9, b, 0, 0, 510), Bench.ins(13, 0, b, 0, 0));
            bench.words(450, Bench.ins(11, ring, 0, 0, 0), Bench.ins(9, b, 0, 0, 200));
            bench.words(510, 3 << 16 | 2).words(202, 777).words(AT, Bench.ins(17, 1, b, 0, 1));
            bench.x.start(448, 2, false);
            bench.run(4, 4);
            bench.x.halt();
            bench.x.start(AT, 0, false);
            bench.step("a step", seen -> seen.d(1, 777).a(ring, 3 << 16).pc(AT + 1));
        }
    }

    /** At 511 the PC behind the instruction is no address, which is for the next step to tell. */
    private static void atTheLastAddress() {
        for (int op : new int[] {1, 18, 21, 23, 27, 31, 0}) {
            Bench b = Bench.ready(op + " at 511", 3).filled().words(511, Bench.ins(op, 1, 0, 0, 1));
            b.enter(511, 2);
            b.step("a step", seen -> {
                switch (op) {
                    case 1: seen.d(1, 1).pc(512); break;
                    case 18: seen.pc(512); break;
                    case 21: seen.upper(1).a(7, 512).set(Bench.STATE, 10).pc(512); break;
                    case 23: seen.lower(1).pc(512); break;
                    case 27: seen.trap(6, 1, 1, 512); break;
                    case 31: seen.halted(); break;
                    default: seen.trap(2, 1, 1, 511); break;
                }
            });
        }
    }

    /** What the instruction itself asks for comes before what its word does. */
    private static void ringBeforeTheWord() {
        int[][] rows = {{0, 512, 22}, {1, 512, 41}, {1, -1, 41}, {0, 200, 22}, {1, 200, 12}};
        for (int[] row : rows) {
            Bench b = Bench.ready("ring of " + row[0] + " at " + row[1], 3);
            b.setA(4, row[0] << 16);
            b.setA(3, row[1]);
            b.words(AT, Bench.ins(17, 6, 3, 5, 1));
            b.x.range(0, 2, 0, 512, 3);
            b.x.guard(true);
            b.x.start(AT, 0, false);
            b.step("a step", seen -> seen.trap(row[2] / 10, row[2] % 10, 1, AT));
        }
    }

    private static void jump(int op, int da, int db, int i, boolean jumps) {
        Bench b = Bench.ready("jump " + op + " of " + da + ", " + db + " by " + i, 1);
        b.setD(1, da);
        b.setD(2, db);
        b.words(AT, Bench.ins(op, 1, 2, 3, i));
        b.x.start(AT, 0, false);
        b.step("a step", seen -> seen.pc(jumps ? AT + i : AT + 1));
    }

    private static void jumps() {
        int[] values = {Integer.MIN_VALUE, Integer.MIN_VALUE + 1, -1, 0, 1, Integer.MAX_VALUE};
        for (int i : AMOUNTS) {
            jump(18, 1, 1, i, true);
            jump(19, 0, 7, i, true);
            jump(19, 1, 0, i, false);
            jump(20, 6, 7, i, true);
            jump(20, 7, 7, i, false);
            jump(20, 8, 7, i, false);
        }
        for (int da : values) {
            jump(19, da, 0, 9, da == 0);
            for (int db : values) {
                jump(20, da, db, 9, da < db);
            }
        }
    }

    /** "TRAP 3, 2 if DEPTH is 15", at each DEPTH. */
    private static void calls() {
        for (int depth = 0; depth <= 15; depth++) {
            for (int i : new int[] {5, 0, -41, 32767, -32768}) {
                int state = 1 + 4 + 8 * depth;
                Bench b = Bench.ready("CALL at DEPTH " + depth, 5).filled();
                b.words(AT, Bench.ins(21, 3, 3, 3, i)).enter(AT, state);
                b.step("a step", seen -> {
                    if (state == 1 + 4 + 8 * 15) {
                        seen.trap(3, 2, 1, AT);
                    } else {
                        seen.upper(1).a(7, AT + 1).set(Bench.STATE, state + 8).pc(AT + i);
                    }
                });
            }
        }
    }

    /** "TRAP 3, 3 if DEPTH is 0", at each DEPTH, with an UPPER context in area 1. */
    private static void returns() {
        for (int depth = 0; depth <= 15; depth++) {
            int state = 8 * depth;
            Bench b = upperLinked(22, state);
            b.step("a step", seen -> {
                if (state == 0) {
                    seen.trap(3, 3, 2, AT);
                } else {
                    back(seen, seen.looks[Bench.LINK]);
                }
            });
        }
    }

    /** Before the instruction at 40 with this STATE, LINK leading to area 1, which is UPPER. */
    private static Bench upperLinked(int op, int state) {
        Bench b = Bench.ready(op + " with STATE " + state, 5).filled();
        b.words(AT, Bench.ins(op, 9)).words(0, Bench.ins(25, 11), Bench.ins(24, 0), Bench.ins(21, 1));
        b.words(3, Bench.ins(21, 1), Bench.ins(9, 7, 0, 0, AT), Bench.ins(26, 0));
        b.x.start(0, 2, false);
        b.run(5, 5);
        b.x.put(Bench.area(2) + 1, state);
        b.words(Bench.area(2) + 3, 99);
        b.run(1, 1);
        b.words(Bench.area(1) + 1, 2 + 4 + 8, 61, 62, 63, 64, 65, 66);
        b.look(Bench.PC, AT);
        b.look(Bench.STATE, state);
        b.look(Bench.LINK, 1 + 32 + 256 * 11 + 4096);
        b.register(Bench.A, 7, 99);
        return b;
    }

    private static void back(Seen seen, int link) {
        seen.pc(99).set(Bench.STATE, 14).a(6, 61).a(7, 62).d(4, 63).d(5, 64).d(6, 65).d(7, 66);
        seen.set(Bench.LINK, seen.words[Bench.area(link & 31)]);
        seen.word(Bench.area(link & 31), seen.looks[Bench.FREE]).set(Bench.FREE, link & 31);
    }

    /** "Behind what is said of DEPTH ..., it is looked first whether there is an area." */
    private static void returnLooksAtDepthFirst() {
        for (int depth = 0; depth <= 15; depth += 5) {
            int state = 1 + 8 * depth;
            boolean none = depth == 0;
            Bench b = Bench.ready("RETURN without an area, DEPTH " + depth, 5).filled();
            b.words(AT, Bench.ins(22, 0)).enter(AT, state);
            b.step("a step", seen -> {
                if (none) {
                    seen.trap(3, 3, 1, AT);
                } else {
                    seen.halted();
                }
            });
            Bench lower = Bench.ready("RETURN of a LOWER one, DEPTH " + depth, 5).filled();
            lower.words(AT - 1, Bench.ins(23, 0), Bench.ins(22, 0)).enter(AT - 1, state);
            lower.run(1, 1);
            lower.step("a step", seen -> seen.trap(3, none ? 3 : 4, 2, AT));
        }
    }

    /** "... and LEVEL, it is looked first whether there is an area, then at its kind." */
    private static void leavingLooksAtTheLevelFirst() {
        for (int level = 0; level <= 2; level++) {
            boolean top = level == 2;
            at(level, Bench.ins(26, 0)).step("without an area", seen -> {
                if (top) {
                    seen.halted();
                } else {
                    seen.trap(1, 1, 1, AT);
                }
            });
            Bench lower = Bench.ready("26 of a LOWER one at level " + level, 5).filled();
            lower.words(AT - 1, Bench.ins(23, 0), Bench.ins(26, 0));
            lower.x.start(AT - 1, level, true);
            lower.run(1, 1);
            lower.step("a step", seen -> seen.trap(top ? 3 : 1, top ? 4 : 1, 2, AT));
            upperLinked(26, level).step("a step", seen -> {
                if (top) {
                    seen.set(Bench.PRIORITY, 11).set(Bench.ENABLED, 1);
                    back(seen, seen.looks[Bench.LINK]);
                } else {
                    seen.trap(1, 1, 2, AT);
                }
            });
        }
    }

    /** "A LOWER one is kept, PRIORITY is i & 15, ENABLED": kept with PRIORITY and ENABLED before. */
    private static void openingHandlers() {
        for (int i : AMOUNTS) {
            Bench b = at(2, Bench.ins(25, i)).words(AT + 1, Bench.ins(25, 3));
            b.step("a step", seen -> {
                seen.lower(1).set(Bench.PRIORITY, i & 15).set(Bench.ENABLED, 1).pc(AT + 1);
            });
            b.look(Bench.LINK, 1);
            b.step("a step", seen -> seen.lower(2).set(Bench.PRIORITY, 3).pc(AT + 2));
            b.look(Bench.LINK, 2 + 256 * (i & 15) + 4096);
        }
    }

    private static void noInstruction() {
        for (int level = 0; level <= 2; level++) {
            for (int word : new int[] {0, 32, -32, 65536, Integer.MIN_VALUE}) {
                at(level, word).step("a step", seen -> seen.trap(2, 1, 1, AT));
            }
        }
    }

    /** "27 TRAP 6, i & 255", with the PC behind the instruction. */
    private static void askedTraps() {
        for (int i : AMOUNTS) {
            for (int level = 0; level <= 2; level++) {
                Bench b = at(level, Bench.ins(27, i));
                b.step("a step", seen -> seen.trap(6, i & 255, 1, AT + 1));
                b.look(Bench.LATEST, 96 + (i & 15));
            }
        }
    }

    /** "28 ENABLED if i & 1 is 1, else not", "29 SET is i & 1", from both. */
    private static void bitsOfTheAmount() {
        for (int i : AMOUNTS) {
            for (int before = 0; before <= 1; before++) {
                Bench enabled = at(2, Bench.ins(28, before)).words(AT + 1, Bench.ins(28, i));
                enabled.run(1, 1);
                enabled.step("a step", seen -> seen.set(Bench.ENABLED, i & 1).pc(AT + 2));
                Bench set = at(2, Bench.ins(29, before)).words(AT + 1, Bench.ins(29, i));
                set.run(1, 1);
                set.step("a step", seen -> seen.set(Bench.STATE, 2 + 4 * (i & 1)).pc(AT + 2));
            }
        }
    }

    /** "30 is so if i & 1 is above LEVEL", with SET and DEPTH as they were. */
    private static void changingTheLevel() {
        for (int state = 0; state < 128; state++) {
            int level = state & 3;
            for (int i = -1; level < 3 && i <= 2; i++) {
                changingTheLevel(state, i & 1, Bench.ins(30, i));
            }
        }
    }

    private static void changingTheLevel(int state, int to, int word) {
        Bench b = Bench.ready("30 to " + to + " from " + state, 3).filled();
        b.words(AT, word).enter(AT, state);
        b.step("a step", seen -> {
            if (to > (state & 3)) {
                seen.trap(1, 1, 1, AT);
            } else {
                seen.set(Bench.STATE, (state & ~3) + to).pc(AT + 1);
            }
        });
    }

    private static void halting() {
        for (int i : AMOUNTS) {
            Bench b = at(2, Bench.ins(31, i));
            b.step("a step", seen -> seen.halted());
            b.run(1, 0);
        }
    }

    /** "25, 26, 28, 29, 31 are TRAP 1, 1 if LEVEL is not 2"; no other instruction is. */
    private static void onlyAtLevelTwo() {
        int[] top = {25, 26, 28, 29, 31};
        for (int level = 0; level <= 1; level++) {
            for (int op : top) {
                for (int i : AMOUNTS) {
                    at(level, Bench.ins(op, 1, 2, 3, i)).step("a step", seen -> seen.trap(1, 1, 1, AT));
                }
            }
            for (int op = 0; op <= 24; op++) {
                Bench b = at(level, Bench.ins(op, 1, 2, 3, 1));
                b.run(1, 1);
                b.due("TRAP 1, 1 of " + op, b.x.look(Bench.LATEST) == 0x11, false);
            }
        }
    }
}
