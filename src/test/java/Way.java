/**
 * The ways in which one step keeps a context: instructions, every trap, and an interrupt. Each can
 * be brought to the point before that step, with any word in FREE, and says what the step changes.
 */
enum Way {
    CALL(1, Bench.ins(21, 40)) {
        @Override
        void due(Seen seen, int area) {
            seen.upper(area).a(7, AT + 1).set(Bench.STATE, 1 + 8).pc(AT + 40);
        }
    },
    LOWER(0, Bench.ins(23, 0)) {
        @Override
        void due(Seen seen, int area) {
            seen.lower(area).pc(AT + 1);
        }
    },
    OPEN(2 + 4, Bench.ins(25, 6)) {
        @Override
        void due(Seen seen, int area) {
            seen.lower(area).set(Bench.PRIORITY, 6).set(Bench.ENABLED, 1).pc(AT + 1);
        }
    },
    TRAP_1_1(1 + 4, Bench.ins(31, 0), 1, 1),
    TRAP_1_2(8, Bench.ins(15, 2, 3, 0, 1), 1, 2),
    TRAP_1_3(1, Bench.ins(16, 2, 3, 0, 1), 1, 3),
    TRAP_1_4(0, Bench.ins(1, 5), 1, 4) {
        @Override
        void guard(Recorder x) {
            x.range(0, 2, 0, AT, 0);
            x.guard(true);
        }
    },
    TRAP_2_1(2 + 4 + 8 * 15, Bench.ins(0, 5), 2, 1),
    TRAP_2_2(0, Bench.ins(17, 2, 3, 0, 1), 2, 2),
    TRAP_3_2(1 + 8 * 15, Bench.ins(21, 40), 3, 2),
    TRAP_3_3(1, Bench.ins(22, 0), 3, 3),
    TRAP_3_4(1 + 8, Bench.ins(22, 0), 3, 4),
    TRAP_4_1_PC(1, 0, 4, 1) {
        @Override
        int at() {
            return 512;
        }
    },
    TRAP_4_1_WORD(2, Bench.ins(14, 2, 3, 0, -24), 4, 1),
    TRAP_6(1 + 4 + 8, Bench.ins(27, 200), 6, 200),
    INTERRUPT(1 + 4 + 8, Bench.ins(1, 5)) {
        @Override
        void due(Seen seen, int area) {
            seen.interrupt(9, area);
        }
    };

    /** Where the step's instruction stands, but for the trap of a PC that is no address. */
    static final int AT = 4;
    static final int PRIORITY = 5;

    final int trapClass;
    private final int number;
    private final int state;
    private final int word;

    Way(int state, int word) {
        this(state, word, 0, 0);
    }

    Way(int state, int word, int trapClass, int number) {
        this.state = state;
        this.word = word;
        this.trapClass = trapClass;
        this.number = number;
    }

    int at() {
        return AT;
    }

    /** It is, wherever the step could make it otherwise. */
    boolean enabled() {
        return this != OPEN;
    }

    /** Reading and writing are guarded wherever that is the trap, with all words as code. */
    void guard(Recorder x) {
        x.range(0, 2, 0, 512, 0);
        x.range(1, 2, 0, 512, 0);
        x.guard(trapClass == 1);
    }

    /** What the step changes, the context being kept in the area. */
    void due(Seen seen, int area) {
        seen.trap(trapClass, number, area, trapClass == 6 ? AT + 1 : at());
    }

    /** Just before the step: FREE is the word, LINK leads to area 1, which is LOWER. */
    Bench ready(int free, int last) {
        Bench b = new Bench(this + " with FREE " + free + " and LAST " + last);
        b.x.pool(24, last);
        b.x.tables(Bench.TABLE, Bench.OTHER);
        b.filled();
        guard(b.x);
        b.words(at() - 1, Bench.ins(23, 0), word);
        b.enter(at() - 1, state, PRIORITY, enabled());
        b.x.put(Bench.area(1), free);
        b.run(1, 1);
        if (this == INTERRUPT) {
            b.x.request(9);
        }
        b.look(Bench.PC, at());
        b.look(Bench.STATE, state);
        b.look(Bench.FREE, free);
        b.untrapped();
        return b;
    }
}
