/** Terms: areas, lists, and contexts that are kept and brought back, at the edges of each. */
public final class AreaTest {
    /** Words that lead to each of the areas at the edges, with and without bits beyond & 31. */
    private static final int[] LEADING = {
        0, 1, 2, 23, 24, 25, 26, 27, 28, 29, 30, 31, 32, 33, 56, 57, 63, 64 + 24, 4096 + 25, -1, -7, -8,
        -31, -32, Integer.MIN_VALUE, Integer.MIN_VALUE + 1, Integer.MAX_VALUE,
    };

    public static void main(String[] args) {
        areasHaveTheirWords();
        keepingNeedsAnArea();
        bringingBackNeedsAnArea();
        stateHasItsBits();
        listsEndAtZeroOrNone();
        listsAreCountedUpTo32();
        Bench.end();
    }

    private static boolean isArea(int leading) {
        return (leading & 31) >= 1 && (leading & 31) <= 24;
    }

    /** "AREAS 1 .. 24 are the words 256 + 8 * (k - 1) .. + 7 of area k." */
    private static void areasHaveTheirWords() {
        for (int k = 1; k <= 24; k++) {
            areaHasItsWords(k, 256 + 8 * (k - 1));
        }
    }

    private static void areaHasItsWords(int k, int at) {
        int kept = 256 * Way.PRIORITY + 4096;
        int[] lower = {1 + kept, 27, 22, 23, 10, 11, 12, 13};
        Way.LOWER.ready(k, 31).step("a step", seen -> {
            seen.set(Bench.FREE, seen.words[at]).set(Bench.LINK, k + kept).pc(5);
            System.arraycopy(lower, 0, seen.words, at, 8);
        });
        int[] upper = {1 + kept, 1, 26, 27, 14, 15, 16, 17};
        Way.CALL.ready(k, 31).step("a step", seen -> {
            seen.set(Bench.FREE, seen.words[at]).set(Bench.LINK, k + 32 + kept).pc(44);
            seen.set(Bench.STATE, 9).a(7, 5);
            System.arraycopy(upper, 0, seen.words, at, 8);
        });
    }

    /**
     * "If FREE & 31 is no area, it HALTS", "An area 25 .. 31 is none", "To HALT is to be HALTED,
     * with nothing else", "An instruction or trap that HALTS leaves PC, and the trap does not count",
     * "if that HALTS, p stays PENDING and is not taken".
     */
    private static void keepingNeedsAnArea() {
        for (Way way : Way.values()) {
            for (int free : LEADING) {
                Bench b = way.ready(free, (free & 31) == 31 ? 30 : 31);
                b.step("a step", seen -> {
                    if (isArea(free)) {
                        way.due(seen, free & 31);
                    } else {
                        seen.halted();
                    }
                });
                b.run(1, isArea(free) ? 1 : 0);
            }
        }
    }

    /** At 99, DEPTH 1, with this word in LINK and words of its own in the area it leads to. */
    private static Bench linked(int link, int op) {
        Bench b = Bench.ready(op + " with LINK " + link, 5).filled();
        b.words(0, Bench.ins(21, 1), Bench.ins(21, 1), Bench.ins(9, 7, 0, 0, 99), Bench.ins(22, 0));
        b.words(99, Bench.ins(op, 0)).go(2, 3);
        b.x.put(Bench.area(2), link);
        b.run(1, 1);
        if (isArea(link)) {
            b.words(Bench.area(link & 31), 6 + 64, 1 + 4 + 8 * 5, 32, 33, 34, 35, 36, 37);
        }
        b.look(Bench.LINK, link);
        b.look(Bench.PC, 99);
        b.look(Bench.STATE, 2 + 8);
        return b;
    }

    /** What the words of linked make of the registers. */
    private static void back(Seen seen, int op, int link) {
        if (op == 24) {
            seen.pc(100).a(7, 45).a(2, 32).a(3, 33).d(0, 34).d(1, 35).d(2, 36).d(3, 37);
        } else {
            seen.pc(1).set(Bench.STATE, 45);
            seen.a(6, 32).a(7, 33).d(4, 34).d(5, 35).d(6, 36).d(7, 37);
        }
        if (op == 26) {
            seen.set(Bench.PRIORITY, link >> 8 & 15).set(Bench.ENABLED, link >> 12 & 1);
        }
        seen.word(Bench.area(link & 31), seen.looks[Bench.FREE]);
        seen.set(Bench.FREE, link & 31).set(Bench.LINK, 6 + 64);
    }

    /**
     * "If LINK & 31 is no area, it HALTS; if the kind is another one, TRAP 3, 4", in this order.
     */
    private static void bringingBackNeedsAnArea() {
        int[] ops = {22, 24, 26};
        for (int op : ops) {
            for (int leading : LEADING) {
                for (int bits : new int[] {0, 32, 256 * 9 + 4096, 32 + 256 * 6, 32 + 4096 + 256 * 15}) {
                    int link = leading ^ bits;
                    Bench b = linked(link, op);
                    boolean sameKind = (link & 32) == (op == 24 ? 0 : 32);
                    b.step("a step", seen -> {
                        if (!isArea(link)) {
                            seen.halted();
                        } else if (sameKind) {
                            back(seen, op, link);
                        } else {
                            seen.trap(3, 4, 2, 99);
                        }
                    });
                }
            }
        }
    }

    /** "Its lowest two bits, at most 2, its third one, and the next four." */
    private static void stateHasItsBits() {
        for (int state = -130; state <= 260; state++) {
            int due = (state & 124) + Math.min(state & 3, 2);
            for (int op : new int[] {22, 26}) {
                Bench b = Bench.ready("STATE " + state + " by " + op, 3);
                b.words(0, Bench.ins(21, 1), Bench.ins(op, 0)).go(2, 1);
                b.x.put(Bench.area(1) + 1, state);
                b.run(1, 1);
                b.look(Bench.STATE, due);
            }
        }
    }

    /** "... and ends at 0"; "An area 25 .. 31 is none". */
    private static void listsEndAtZeroOrNone() {
        for (int word : LEADING) {
            int k = word & 31;
            int due = k == 0 || k > 24 ? 3 : k > 3 ? 4 : 32;
            Bench b = Bench.ready("FREE list that leads to " + word, 3);
            b.x.put(Bench.area(3), word);
            b.lists(due, 0);
            Bench link = Bench.ready("list of LINK that leads to " + word, 3);
            link.words(0, Bench.ins(23, 0), Bench.ins(21, 1), Bench.ins(23, 0)).go(2, 3);
            link.x.put(Bench.area(1), word);
            link.lists(0, due);
            Bench first = linked(word, 24);
            first.due("list(1)", first.x.list(1), isArea(word) ? areasFrom(first, word) : 0);
            Bench free = Way.LOWER.ready(word, (word & 31) == 31 ? 30 : 31);
            free.due("list(0)", free.x.list(0), isArea(word) ? areasFrom(free, word) : 0);
        }
    }

    private static int areasFrom(Bench b, int word) {
        int count = 0;
        for (int k = word & 31; count < 32 && isArea(k); k = b.x.word(Bench.area(k)) & 31) {
            count++;
        }
        return count;
    }

    /** "Counted up to 32": no list without a ring has more than 24. */
    private static void listsAreCountedUpTo32() {
        for (int n = 1; n <= 24; n++) {
            Bench b = Bench.ready("ring of " + n, n);
            b.lists(n, 0);
            b.x.put(Bench.area(n), 1);
            b.lists(32, 0);
            b.x.put(Bench.area(n), n);
            b.lists(32, 0);
            b.x.put(Bench.area(n), 25);
            b.lists(n, 0);
        }
        Bench none = Bench.ready("no list", 0);
        none.lists(0, 0);
    }
}
