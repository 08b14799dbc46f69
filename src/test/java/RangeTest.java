/** Promises 4 to 6 with the Terms: what is GUARDED, at the edges of ranges, sets, rights, levels. */
public final class RangeTest {
    private static final int AT = 40;
    private static final int LEAST = Integer.MIN_VALUE;
    private static final int MOST = Integer.MAX_VALUE;
    private static final int[] BOUNDS = {LEAST, LEAST + 1, -1, 0, 1, 200, 201, 511, 512, 513, MOST};

    public static void main(String[] args) {
        dataAtTheEdges();
        rightsOfTwoRanges();
        boundsOfData();
        boundsOfCode();
        codeAtTheEdges();
        addressBeforeTheGuard();
        guardedBelowLevelTwo();
        guardingOnAndOff();
        handlersAreNotGuarded();
        contextsAreNotGuarded();
        tablesWrap();
        Bench.end();
    }

    /** With the word at 40, guarded, with code 0 .. 255 in both sets (with all rights), and no data. */
    private static Bench guarded(String name, int word) {
        Bench b = Bench.ready(name, 5).filled().words(AT, word);
        b.x.range(0, 2, 0, 256, 3);
        b.x.range(1, 2, 0, 256, 3);
        b.x.guard(true);
        return b;
    }

    /** Words are read by 13, 15 and 17 and written by 14 and 16, at A3, from or to D5. */
    private static Bench using(String name, int state, int op, int address) {
        Bench b = guarded(name + ", " + op + " of " + address, Bench.ins(op, 5, 3, 0, 0));
        b.setA(4, 65536);
        b.setA(3, address);
        b.setD(5, 555);
        if (reads(op)) {
            b.x.put(address, 777);
        }
        return b.enter(AT, state);
    }

    private static boolean reads(int op) {
        return op % 2 == 1;
    }

    private static void use(Bench b, int op, int address, boolean lets) {
        b.step("a step", seen -> {
            if (!lets) {
                seen.trap(1, reads(op) ? 2 : 3, 1, AT);
            } else if (reads(op)) {
                seen.d(5, 777).pc(AT + 1);
            } else {
                seen.word(address, 555).pc(AT + 1);
            }
        });
    }

    /** "The addresses from low to high - 1; rights: 1 reading, + 2 writing", of both sets. */
    private static void dataAtTheEdges() {
        for (int k = 0; k < 16; k++) {
            int set = k & 1;
            int range = k >> 1 & 1;
            int rights = k >> 2;
            for (int op = 13; op <= 17; op++) {
                for (int address : new int[] {199, 200, 201, 202, 203}) {
                    String name = "range " + set + ", " + range + " with rights " + rights;
                    Bench b = using(name, 1 + 4 * set + 8, op, address);
                    b.x.range(set, range, 200, 203, rights);
                    b.x.range(1 - set, range, 0, 512, 3);
                    boolean in = address >= 200 && address < 203;
                    use(b, op, address, in && (rights & (reads(op) ? 1 : 2)) != 0);
                }
            }
        }
    }

    /** "If none of the two data ranges of SET that has the address lets it." */
    private static void rightsOfTwoRanges() {
        for (int k = 0; k < 16; k++) {
            int first = k & 3;
            int second = k >> 2;
            for (int op = 13; op <= 14; op++) {
                for (int address : new int[] {199, 200, 203, 204, 205, 206, 209, 210}) {
                    Bench b = using("rights " + first + " and " + second, 0, op, address);
                    b.x.range(0, 0, 200, 206, first);
                    b.x.range(0, 1, 204, 210, second);
                    int rights = (address >= 200 && address < 206 ? first : 0)
                        | (address >= 204 && address < 210 ? second : 0);
                    use(b, op, address, (rights & (reads(op) ? 1 : 2)) != 0);
                }
            }
        }
    }

    private static void boundsOfData() {
        for (int low : BOUNDS) {
            for (int high : BOUNDS) {
                for (int address : new int[] {0, 200, 511}) {
                    Bench b = using("range from " + low + " to " + high, 1, 13, address);
                    b.x.range(0, 1, low, high, 3);
                    use(b, 13, address, address >= low && address < high);
                }
            }
        }
    }

    private static void boundsOfCode() {
        for (int low : BOUNDS) {
            for (int high : BOUNDS) {
                for (int address : new int[] {0, 200, 511}) {
                    Bench b = Bench.ready("code from " + low + " to " + high, 5).filled();
                    b.x.range(0, 2, low, high, 3);
                    done(b, address, 1, address >= low && address < high);
                }
            }
        }
    }

    private static void done(Bench b, int address, int state, boolean lets) {
        b.words(address, Bench.ins(1, 5));
        b.x.guard(true);
        b.enter(address, state);
        b.step("the word at " + address, seen -> {
            if (lets) {
                seen.d(0, 5).pc(address + 1);
            } else {
                seen.trap(1, 4, 1, address);
            }
        });
    }

    /** "TRAP 1, 4 if it is GUARDED and not in the code range": of its own set, whatever the rights. */
    private static void codeAtTheEdges() {
        for (int k = 0; k < 8; k++) {
            int set = k & 1;
            int rights = k >> 1;
            for (int level = 0; level <= 2; level++) {
                for (int address : new int[] {99, 100, 101, 102, 103}) {
                    Bench b = Bench.ready("code of set " + set + " at level " + level, 5).filled();
                    b.x.range(set, 2, 100, 103, rights);
                    b.x.range(1 - set, 2, 0, 512, 3);
                    b.x.range(set, 0, 0, 512, 3);
                    b.x.range(set, 1, 0, 512, 3);
                    boolean in = address >= 100 && address < 103;
                    done(b, address, level + 4 * set, level == 2 || in);
                }
            }
        }
    }

    /** "TRAP 4, 1 if there is no such address; else, if it is GUARDED ...". */
    private static void addressBeforeTheGuard() {
        for (int op = 13; op <= 17; op++) {
            for (int address : new int[] {-1, 0, 511, 512}) {
                Bench without = using("no range", 0, op, address);
                Bench with = using("a range", 0, op, address);
                with.x.range(0, 0, LEAST, MOST, 3);
                if (address == -1 || address == 512) {
                    without.step("a step", seen -> seen.trap(4, 1, 1, AT));
                    with.step("a step", seen -> seen.trap(4, 1, 1, AT));
                } else {
                    use(without, op, address, false);
                    use(with, op, address, true);
                }
            }
        }
    }

    /** "GUARDED it is if guarding is on and LEVEL is not 2." */
    private static void guardedBelowLevelTwo() {
        for (int level = 0; level <= 2; level++) {
            for (int op = 13; op <= 17; op++) {
                use(using("level " + level, level, op, 300), op, 300, level == 2);
                Bench off = using("off, level " + level, level, op, 300);
                off.x.guard(false);
                use(off, op, 300, true);
            }
        }
    }

    private static void guardingOnAndOff() {
        Bench b = Bench.ready("on and off", 5).words(0, Bench.ins(18, 0));
        b.x.start(0, 0, false);
        b.step("off, at first", seen -> { });
        b.x.guard(false);
        b.step("off", seen -> { });
        b.x.guard(true);
        b.x.guard(true);
        b.x.guard(false);
        b.step("off again", seen -> { });
        b.x.guard(true);
        b.step("on", seen -> seen.trap(1, 4, 1, 0));
    }

    /** LEVEL is 2 in a handler; back from it, it is guarded as before. */
    private static void handlersAreNotGuarded() {
        Bench b = guarded("handler", Bench.ins(27, 5)).enter(AT, 1);
        b.x.range(0, 2, AT, AT + 1, 0);
        b.words(124, Bench.ins(13, 1, 0, 0, 0), Bench.ins(26, 0));
        b.step("the trap", seen -> seen.trap(6, 5, 1, AT + 1));
        b.step("in the handler", seen -> seen.d(1, seen.words[20]).pc(125));
        b.run(1, 1);
        b.step("back", seen -> seen.trap(1, 4, 1, AT + 1));
    }

    /** "What is kept and brought back is not guarded", though no range lets data be used. */
    private static void contextsAreNotGuarded() {
        Bench b = guarded("contexts", Bench.ins(23, 0)).enter(AT, 0);
        b.words(AT + 1, Bench.ins(24, 0), Bench.ins(21, 1), Bench.ins(22, 0));
        b.step("23", seen -> seen.lower(1).pc(AT + 1));
        b.step("24", seen -> seen.word(256, 2).pc(AT + 2).set(Bench.FREE, 1).set(Bench.LINK, 0));
        b.step("21", seen -> seen.upper(1).a(7, AT + 3).set(Bench.STATE, 8).pc(AT + 3));
        b.step("22", seen -> {
            seen.word(256, 2).pc(AT + 3).set(Bench.FREE, 1).set(Bench.LINK, 0);
            seen.set(Bench.STATE, 0).a(7, 27);
        });
    }

    /** "Sums wrap": TABLE + 4 * class and OTHER + 4 * p. */
    private static void tablesWrap() {
        for (int table : new int[] {0, -24, -25, MOST, MOST - 23, MOST - 24, LEAST}) {
            Bench trap = Bench.ready("TABLE " + table, 3).words(0, Bench.ins(27, 1));
            trap.x.tables(table, 7);
            trap.go(0, 1);
            trap.look(Bench.PC, table + 24);
            Bench taken = Bench.ready("OTHER " + table, 3);
            taken.x.tables(7, table);
            taken.x.request(6);
            taken.x.start(0, 0, true);
            taken.run(1, 1);
            taken.look(Bench.PC, table + 24);
            taken.look(Bench.TAKEN, 1);
        }
    }
}
