/**
 * A processor that keeps its calls, traps and interrupts in areas of memory which are linked to
 * lists. The document's promises are the face; the classes inside hold one part of the state each.
 */
public final class AreaCore {
    public static final int NONE = -1;

    private static final int WORDS = 512;
    private static final int AREAS = 24;
    private static final int AREAS_BEGIN = 256;
    private static final int AREA_WORDS = 8;
    private static final int COUNTED_AREAS = 32;
    private static final int AREA_BITS = 31;
    private static final int KIND_BIT = 32;
    private static final int ENABLED_BIT = 4096;

    private static final int TOP_LEVEL = 2;
    private static final int DEEPEST = 15;
    private static final int INTERRUPTS = 15;
    private static final int MOST_STEPS = 300;

    private static final int SETS = 2;
    private static final int RANGES = 3;
    private static final int CODE = 2;
    private static final int READING = 1;
    private static final int WRITING = 2;
    private static final int ALL_RIGHTS = 3;

    // How an instruction ends: one of the three, or else a trap, as 256 * class + number.
    private static final int GOES_ON = 0;
    private static final int JUMPED = 1;
    private static final int HALTS = 2;
    private static final int TRAP_LEVEL = 0x101;
    private static final int TRAP_READING = 0x102;
    private static final int TRAP_WRITING = 0x103;
    private static final int TRAP_CODE = 0x104;
    private static final int TRAP_NO_INSTRUCTION = 0x201;
    private static final int TRAP_NO_RING = 0x202;
    private static final int TRAP_DRAINED = 0x301;
    private static final int TRAP_TOO_DEEP = 0x302;
    private static final int TRAP_NO_CALL = 0x303;
    private static final int TRAP_OTHER_KIND = 0x304;
    private static final int TRAP_NO_ADDRESS = 0x401;
    private static final int TRAP_ASKED = 0x600;
    private static final int CLASS_LISTS = 3;
    private static final int CLASS_ASKED = 6;

    private final Processor core;

    public AreaCore() {
        core = new Processor();
    }

    public boolean put(int address, int v) {
        if (!Memory.has(address)) {
            return false;
        }
        core.memory.write(address, v);
        return true;
    }

    public void pool(int n, int last) throws IllegalArgumentException, IllegalStateException {
        if (n < 0 || n > AREAS || last < 0 || last > AREA_BITS) {
            throw new IllegalArgumentException("no such pool");
        }
        if (core.runs) {
            throw new IllegalStateException("it runs");
        }
        core.memory.chainAreas(n);
        core.registers.free = n == 0 ? 0 : 1;
        core.registers.last = last;
        core.registers.link = 0;
    }

    public void tables(int table, int other) {
        core.table = table;
        core.other = other;
    }

    public void range(int s, int range, int low, int high, int rights)
            throws IllegalArgumentException {
        if (s < 0 || s >= SETS || range < 0 || range >= RANGES) {
            throw new IllegalArgumentException("no such set or range");
        }
        if (rights < 0 || rights > ALL_RIGHTS) {
            throw new IllegalArgumentException("no such rights");
        }
        core.ranges.change(s * RANGES + range, low, high, rights);
    }

    public void guard(boolean on) {
        core.guarding = on;
    }

    public void timer(int n, int p) throws IllegalArgumentException {
        if (n < 0 || !Interrupts.has(p)) {
            throw new IllegalArgumentException("no such timer");
        }
        core.interrupts.every = n;
        core.interrupts.asked = p;
    }

    public boolean request(int p) {
        if (!Interrupts.has(p) || core.interrupts.isPending(p)) {
            return false;
        }
        core.interrupts.ask(p);
        return true;
    }

    public void start(int pc, int level, boolean enabled)
            throws IllegalArgumentException, IllegalStateException {
        if (level < 0 || level > TOP_LEVEL) {
            throw new IllegalArgumentException("no such level");
        }
        if (core.runs) {
            throw new IllegalStateException("it runs");
        }
        core.registers.begin(pc, level, enabled);
        core.runs = true;
    }

    public boolean halt() {
        boolean ran = core.runs;
        core.runs = false;
        return ran;
    }

    public int run(int n) throws IllegalArgumentException {
        if (n < 0 || n > MOST_STEPS) {
            throw new IllegalArgumentException("no such number of steps");
        }
        int done = 0;
        while (done < n && core.runs) {
            core.step();
            done++;
        }
        return done;
    }

    public int register(int of, int k) throws IndexOutOfBoundsException {
        if (of < 0 || of > 1 || k < 0 || k > 7) {
            throw new IndexOutOfBoundsException("no such register");
        }
        return of == 0 ? core.registers.d[k] : core.registers.a[k];
    }

    public int word(int address) {
        return core.memory.read(address);
    }

    public int look(int which) {
        Registers r = core.registers;
        switch (which) {
            case 0: return core.runs ? 1 : 0;
            case 1: return r.pc;
            case 2: return r.free;
            case 3: return r.last;
            case 4: return r.link;
            case 5: return r.state();
            case 6: return r.priority;
            case 7: return r.enabled ? 1 : 0;
            case 8: return core.interrupts.time;
            case 9: return core.interrupts.pending;
            case 10: return core.traps;
            case 11: return core.latestTrap;
            case 12: return core.interrupts.taken;
            default: return NONE;
        }
    }

    public int list(int which) {
        if (which < 0 || which > 1) {
            return NONE;
        }
        return core.memory.countAreas(which == 0 ? core.registers.free : core.registers.link);
    }

    /** The words, and the areas among them. */
    private static final class Memory {
        private final int[] words;

        Memory() {
            words = new int[WORDS];
        }

        static boolean has(int address) {
            return address >= 0 && address < WORDS;
        }

        static boolean isArea(int area) {
            return area >= 1 && area <= AREAS;
        }

        static int areaStart(int area) {
            return AREAS_BEGIN + AREA_WORDS * (area - 1);
        }

        int read(int address) {
            return has(address) ? words[address] : 0;
        }

        void write(int address, int v) {
            if (has(address)) {
                words[address] = v;
            }
        }

        void chainAreas(int n) {
            for (int area = 1; area <= n; area++) {
                write(areaStart(area), area == n ? 0 : area + 1);
            }
        }

        int countAreas(int first) {
            int area = first & AREA_BITS;
            int count = 0;
            // A list that a program has bent into a ring has no end of its own.
            while (count < COUNTED_AREAS && isArea(area)) {
                count++;
                area = read(areaStart(area)) & AREA_BITS;
            }
            return count;
        }
    }

    /** The registers, and their way into an area and back. */
    private static final class Registers {
        final int[] d;
        final int[] a;
        int pc;
        int free;
        int last;
        int link;
        int level;
        int set;
        int depth;
        int priority;
        boolean enabled;
        boolean drained;

        Registers() {
            d = new int[8];
            a = new int[8];
        }

        int state() {
            return level + 4 * set + 8 * depth;
        }

        private void takeState(int state) {
            level = (state & 3) > TOP_LEVEL ? TOP_LEVEL : state & 3;
            set = state >> 2 & 1;
            depth = state >> 3 & 15;
        }

        void begin(int from, int atLevel, boolean isEnabled) {
            pc = from;
            level = atLevel;
            set = 0;
            depth = 0;
            priority = 0;
            enabled = isEnabled;
        }

        void enterHandler(int handler, int back) {
            a[7] = back;
            level = TOP_LEVEL;
            set = 0;
            depth = 0;
            enabled = false;
            pc = handler;
        }

        /** False, with nothing changed, if the FREE list has no area to give. */
        boolean keep(Memory memory, boolean upper) {
            int area = free & AREA_BITS;
            if (!Memory.isArea(area)) {
                return false;
            }
            int start = Memory.areaStart(area);
            free = memory.read(start);
            memory.write(start, link);
            memory.write(start + 1, upper ? state() : a[7]);
            memory.write(start + 2, upper ? a[6] : a[2]);
            memory.write(start + 3, upper ? a[7] : a[3]);
            int firstData = upper ? 4 : 0;
            for (int k = 0; k < 4; k++) {
                memory.write(start + 4 + k, d[firstData + k]);
            }
            link = area + (upper ? KIND_BIT : 0) + 256 * priority + (enabled ? ENABLED_BIT : 0);
            if ((free & AREA_BITS) == last) {
                drained = true;
            }
            return true;
        }

        /** What stands against bringing a context of this kind back. */
        int refuseBack(boolean upper) {
            if (!Memory.isArea(link & AREA_BITS)) {
                return HALTS;
            }
            boolean isUpper = (link & KIND_BIT) != 0;
            return isUpper == upper ? GOES_ON : TRAP_OTHER_KIND;
        }

        /** To be called only where refuseBack has nothing against it. */
        void bringBack(Memory memory, boolean upper) {
            int area = link & AREA_BITS;
            int start = Memory.areaStart(area);
            link = memory.read(start);
            if (upper) {
                takeState(memory.read(start + 1));
                a[6] = memory.read(start + 2);
                a[7] = memory.read(start + 3);
            } else {
                a[7] = memory.read(start + 1);
                a[2] = memory.read(start + 2);
                a[3] = memory.read(start + 3);
            }
            int firstData = upper ? 4 : 0;
            for (int k = 0; k < 4; k++) {
                d[firstData + k] = memory.read(start + 4 + k);
            }
            memory.write(start, free);
            free = area;
        }
    }

    /** The ranges of the two sets, three in a row for each. */
    private static final class Ranges {
        private final int[] lows;
        private final int[] highs;
        private final int[] rights;

        Ranges() {
            lows = new int[SETS * RANGES];
            highs = new int[SETS * RANGES];
            rights = new int[SETS * RANGES];
        }

        void change(int at, int low, int high, int right) {
            lows[at] = low;
            highs[at] = high;
            rights[at] = right;
        }

        private boolean covers(int at, int address) {
            return address >= lows[at] && address < highs[at];
        }

        boolean letsRun(int set, int address) {
            return covers(set * RANGES + CODE, address);
        }

        boolean letsUse(int set, int address, int right) {
            for (int k = 0; k < CODE; k++) {
                int at = set * RANGES + k;
                if (covers(at, address) && (rights[at] & right) != 0) {
                    return true;
                }
            }
            return false;
        }
    }

    /** The time, the timer and the interrupts that wait. */
    private static final class Interrupts {
        int time;
        int every;
        int asked;
        int pending;
        int taken;

        static boolean has(int p) {
            return p >= 1 && p <= INTERRUPTS;
        }

        boolean isPending(int p) {
            return (pending >> p & 1) == 1;
        }

        void ask(int p) {
            pending |= 1 << p;
        }

        void tick() {
            time++;
            if (every > 0 && time % every == 0) {
                ask(asked);
            }
        }

        /** The greatest that waits, 0 if none does. */
        int greatest() {
            int p = INTERRUPTS;
            while (p > 0 && !isPending(p)) {
                p--;
            }
            return p;
        }

        void take(int p) {
            pending &= ~(1 << p);
            taken++;
        }
    }

    /** The steps: interrupts, instructions and traps. */
    private static final class Processor {
        final Memory memory;
        final Registers registers;
        final Ranges ranges;
        final Interrupts interrupts;
        boolean runs;
        boolean guarding;
        int table;
        int other;
        int traps;
        int latestTrap;

        Processor() {
            memory = new Memory();
            registers = new Registers();
            ranges = new Ranges();
            interrupts = new Interrupts();
            latestTrap = NONE;
        }

        void step() {
            interrupts.tick();
            registers.drained = false;
            int p = registers.enabled ? interrupts.greatest() : 0;
            if (p > registers.priority) {
                takeInterrupt(p);
            } else {
                int refusal = refuseFetch();
                finish(refusal == GOES_ON ? perform(memory.read(registers.pc)) : refusal);
            }
            if (runs && registers.drained) {
                takeTrap(TRAP_DRAINED, registers.pc);
            }
        }

        private void takeInterrupt(int p) {
            if (!registers.keep(memory, true)) {
                runs = false;
                return;
            }
            interrupts.take(p);
            registers.priority = p;
            registers.enterHandler(other + 4 * p, registers.pc);
        }

        private void takeTrap(int trap, int back) {
            if (!registers.keep(memory, true)) {
                runs = false;
                return;
            }
            int trapClass = trap >> 8;
            int number = trap & 255;
            registers.enterHandler(table + 4 * trapClass, back);
            registers.d[7] = number;
            traps++;
            latestTrap = 16 * trapClass + (number & 15);
            if (trapClass == CLASS_LISTS) {
                // A trap about the lists tells of them already, so 3, 1 must not follow it.
                registers.drained = false;
            }
        }

        private void finish(int end) {
            if (end == GOES_ON) {
                registers.pc++;
            } else if (end == HALTS) {
                runs = false;
            } else if (end != JUMPED) {
                takeTrap(end, end >> 8 == CLASS_ASKED ? registers.pc + 1 : registers.pc);
            }
        }

        private boolean isGuarded() {
            return guarding && registers.level != TOP_LEVEL;
        }

        /** What stands against doing the word at PC. */
        private int refuseFetch() {
            if (!Memory.has(registers.pc)) {
                return TRAP_NO_ADDRESS;
            }
            boolean lets = !isGuarded() || ranges.letsRun(registers.set, registers.pc);
            return lets ? GOES_ON : TRAP_CODE;
        }

        private int perform(int w) {
            int op = w & 31;
            int i = amount(w);
            if (needsTopLevel(op) && registers.level != TOP_LEVEL) {
                return TRAP_LEVEL;
            }
            switch (op) {
                case 0: return TRAP_NO_INSTRUCTION;
                case 13: case 14: case 15: case 16: return moveWord(op, w);
                case 17: return readRing(w);
                case 18: case 19: case 20: return jump(op, w);
                case 21: return callDown(i);
                case 22: return registers.depth == 0 ? TRAP_NO_CALL : goBack(false);
                case 23: return keepLower();
                case 24: return bringLowerBack();
                case 25: return openHandler(i & 15);
                case 26: return goBack(true);
                case 27: return TRAP_ASKED + (i & 255);
                case 28: registers.enabled = (i & 1) == 1; return GOES_ON;
                case 29: registers.set = i & 1; return GOES_ON;
                case 30: return changeLevel(i & 1);
                case 31: return HALTS;
                default: return compute(op, w);
            }
        }

        private static boolean needsTopLevel(int op) {
            return op == 25 || op == 26 || op == 28 || op == 29 || op == 31;
        }

        private static int fieldA(int w) {
            return w >> 5 & 7;
        }

        private static int fieldB(int w) {
            return w >> 8 & 7;
        }

        private static int fieldC(int w) {
            return w >> 11 & 7;
        }

        private static int amount(int w) {
            return w >> 16;
        }

        private int compute(int op, int w) {
            int[] d = registers.d;
            int[] a = registers.a;
            int to = fieldA(w);
            int b = fieldB(w);
            int c = fieldC(w);
            int i = amount(w);
            switch (op) {
                case 1: d[to] = i; break;
                case 2: d[to] = d[b] + i; break;
                case 3: d[to] = d[b] + d[c]; break;
                case 4: d[to] = d[b] - d[c]; break;
                case 5: d[to] = d[b] * d[c]; break;
                case 6: d[to] = d[b] & d[c]; break;
                case 7: d[to] = d[b] ^ d[c]; break;
                case 8: d[to] = i < 0 ? d[b] >> -i : d[b] << i; break;
                case 9: a[to] = i; break;
                case 10: a[to] = a[b] + i; break;
                case 11: a[to] = d[b]; break;
                default: d[to] = a[b]; break;
            }
            return GOES_ON;
        }

        /** What stands against reading or writing the word there. */
        private int refuseWord(int address, int right) {
            if (!Memory.has(address)) {
                return TRAP_NO_ADDRESS;
            }
            if (!isGuarded() || ranges.letsUse(registers.set, address, right)) {
                return GOES_ON;
            }
            return right == READING ? TRAP_READING : TRAP_WRITING;
        }

        private int moveWord(int op, int w) {
            int b = fieldB(w);
            int i = amount(w);
            boolean writes = op == 14 || op == 16;
            boolean grows = op >= 15;
            int address = grows ? registers.a[b] : registers.a[b] + i;
            int refusal = refuseWord(address, writes ? WRITING : READING);
            if (refusal != GOES_ON) {
                return refusal;
            }
            if (writes) {
                memory.write(address, registers.d[fieldA(w)]);
            } else {
                registers.d[fieldA(w)] = memory.read(address);
            }
            if (grows) {
                registers.a[b] += i;
            }
            return GOES_ON;
        }

        private int readRing(int w) {
            int b = fieldB(w);
            int ring = b + 1 & 7;
            int x = registers.a[ring] & 65535;
            int n = registers.a[ring] >>> 16;
            if (n == 0 || x >= n) {
                return TRAP_NO_RING;
            }
            int address = registers.a[b] + x;
            int refusal = refuseWord(address, READING);
            if (refusal != GOES_ON) {
                return refusal;
            }
            registers.d[fieldA(w)] = memory.read(address);
            registers.a[ring] = n * 65536 + Math.floorMod(x + amount(w), n);
            return GOES_ON;
        }

        private int jump(int op, int w) {
            int da = registers.d[fieldA(w)];
            int db = registers.d[fieldB(w)];
            boolean jumps = op == 18 || (op == 19 ? da == 0 : da < db);
            if (!jumps) {
                return GOES_ON;
            }
            registers.pc += amount(w);
            return JUMPED;
        }

        private int callDown(int i) {
            if (registers.depth == DEEPEST) {
                return TRAP_TOO_DEEP;
            }
            if (!registers.keep(memory, true)) {
                return HALTS;
            }
            registers.a[7] = registers.pc + 1;
            registers.depth++;
            registers.pc += i;
            return JUMPED;
        }

        private int goBack(boolean fromHandler) {
            int refusal = registers.refuseBack(true);
            if (refusal != GOES_ON) {
                return refusal;
            }
            registers.pc = registers.a[7];
            if (fromHandler) {
                registers.priority = registers.link >> 8 & 15;
                registers.enabled = (registers.link & ENABLED_BIT) != 0;
            }
            registers.bringBack(memory, true);
            return JUMPED;
        }

        private int keepLower() {
            return registers.keep(memory, false) ? GOES_ON : HALTS;
        }

        private int bringLowerBack() {
            int refusal = registers.refuseBack(false);
            if (refusal == GOES_ON) {
                registers.bringBack(memory, false);
            }
            return refusal;
        }

        private int openHandler(int priority) {
            if (!registers.keep(memory, false)) {
                return HALTS;
            }
            registers.priority = priority;
            registers.enabled = true;
            return GOES_ON;
        }

        private int changeLevel(int level) {
            if (level > registers.level) {
                return TRAP_LEVEL;
            }
            registers.level = level;
            return GOES_ON;
        }
    }
}
