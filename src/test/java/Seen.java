import java.util.Arrays;

/**
 * All that the face shows of an object. A test takes what was seen before a step, writes into it
 * what the document lets the step change, and compares: whatever else has changed is then wrong.
 */
final class Seen {
    private static final String[] LOOKS = {
        "RUNS", "PC", "FREE", "LAST", "LINK", "STATE", "PRIORITY", "ENABLED", "TIME", "PENDING",
        "TRAPS", "LATEST", "TAKEN",
    };

    final int[] looks = new int[LOOKS.length];
    final int[] d = new int[8];
    final int[] a = new int[8];
    final int[] words = new int[512];
    private final int[] lists = new int[2];

    /** Looks at it by objects with the same past, some words each, for want of calls. */
    static Seen of(Recorder recorder) {
        Seen seen = new Seen();
        Recorder x = recorder.again();
        for (int which = 0; which < LOOKS.length; which++) {
            seen.looks[which] = x.look(which);
        }
        for (int k = 0; k < 8; k++) {
            seen.d[k] = x.register(0, k);
            seen.a[k] = x.register(1, k);
        }
        seen.lists[0] = x.list(0);
        seen.lists[1] = x.list(1);
        for (int address = 0; address < 512; address++) {
            if (address % 128 == 0) {
                x = recorder.again();
            }
            seen.words[address] = x.word(address);
        }
        return seen;
    }

    Seen set(int which, int v) {
        looks[which] = v;
        return this;
    }

    Seen pc(int v) {
        return set(Bench.PC, v);
    }

    Seen d(int k, int v) {
        d[k] = v;
        return this;
    }

    Seen a(int k, int v) {
        a[k] = v;
        return this;
    }

    Seen word(int address, int v) {
        words[address] = v;
        return this;
    }

    Seen halted() {
        return set(Bench.RUNS, 0);
    }

    private Seen link(int area, int kind) {
        looks[Bench.FREE] = words[Bench.area(area)];
        words[Bench.area(area)] = looks[Bench.LINK];
        looks[Bench.LINK] =
            area + kind + 256 * looks[Bench.PRIORITY] + 4096 * looks[Bench.ENABLED];
        return this;
    }

    /** An UPPER context is kept in the area. */
    Seen upper(int area) {
        int[] kept = {looks[Bench.STATE], a[6], a[7], d[4], d[5], d[6], d[7]};
        System.arraycopy(kept, 0, words, Bench.area(area) + 1, kept.length);
        return link(area, 32);
    }

    /** A LOWER context is kept in the area. */
    Seen lower(int area) {
        int[] kept = {a[7], a[2], a[3], d[0], d[1], d[2], d[3]};
        System.arraycopy(kept, 0, words, Bench.area(area) + 1, kept.length);
        return link(area, 0);
    }

    private Seen handler(int pc) {
        return set(Bench.STATE, 2).set(Bench.ENABLED, 0).pc(pc);
    }

    /** A trap is taken, with its context in the area. */
    Seen trap(int trapClass, int number, int area, int back) {
        upper(area).a(7, back).d(7, number).handler(Bench.TABLE + 4 * trapClass);
        set(Bench.LATEST, 16 * trapClass + (number & 15));
        return set(Bench.TRAPS, looks[Bench.TRAPS] + 1);
    }

    /** Interrupt p is taken, with its context in the area. */
    Seen interrupt(int p, int area) {
        upper(area).a(7, looks[Bench.PC]).handler(Bench.OTHER + 4 * p).set(Bench.PRIORITY, p);
        set(Bench.PENDING, looks[Bench.PENDING] & ~(1 << p));
        return set(Bench.TAKEN, looks[Bench.TAKEN] + 1);
    }

    /** The areas of a list of the words and looks that stand here. */
    private int areas(int begin) {
        int count = 0;
        for (int k = begin & 31; k >= 1 && k <= 24 && count < 32; k = words[Bench.area(k)] & 31) {
            count++;
        }
        return count;
    }

    /** What is not as due, "" if all is. */
    String differs(Seen got) {
        lists[0] = areas(looks[Bench.FREE]);
        lists[1] = areas(looks[Bench.LINK]);
        StringBuilder text = new StringBuilder();
        for (int which = 0; which < LOOKS.length; which++) {
            differs(text, LOOKS[which], got.looks[which], looks[which]);
        }
        differs(text, "D", got.d, d);
        differs(text, "A", got.a, a);
        differs(text, "word ", got.words, words);
        differs(text, "list ", got.lists, lists);
        return text.toString();
    }

    private static void differs(StringBuilder text, String name, int[] got, int[] due) {
        if (!Arrays.equals(got, due)) {
            for (int k = 0; k < due.length; k++) {
                differs(text, name + k, got[k], due[k]);
            }
        }
    }

    private static void differs(StringBuilder text, String name, int got, int due) {
        if (got != due) {
            text.append(' ').append(name).append(" is ").append(got).append(", due ").append(due);
        }
    }
}
