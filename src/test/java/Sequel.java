import java.util.ArrayList;
import java.util.List;

/**
 * What becomes of an object later: the tables, the timer, guarding and the ranges cannot be looked
 * at, but show in what steps do. Two objects with the same sequel hold the same there.
 */
final class Sequel {
    private static final int WAIT = Bench.ins(18, 0);

    private final Recorder past;
    private final List<Integer> answers = new ArrayList<>();

    private Sequel(Recorder past) {
        this.past = past;
    }

    /** The edges are addresses where ranges may begin or end; those beside them are tried, too. */
    static List<Integer> of(Recorder past, int... edges) {
        Sequel sequel = new Sequel(past);
        sequel.tables();
        sequel.timer();
        sequel.guarding();
        for (int set = 0; set <= 1; set++) {
            for (int edge : edges) {
                sequel.data(set, edge);
                sequel.code(set, edge);
            }
        }
        return sequel.answers;
    }

    private Recorder halted() {
        Recorder x = past.again();
        x.halt();
        x.pool(24, 31);
        return x;
    }

    private void tables() {
        Recorder x = halted();
        x.put(0, 0);
        x.start(0, 2, false);
        x.run(1);
        answers.add(x.look(Bench.PC));
        x.halt();
        x.request(15);
        x.start(0, 2, true);
        x.run(1);
        answers.add(x.look(Bench.PC));
    }

    private void timer() {
        Recorder x = halted();
        x.put(0, WAIT);
        x.start(0, 2, false);
        for (int k = 0; k < 20; k++) {
            x.run(1);
            answers.add(x.look(Bench.PENDING));
        }
    }

    private void guarding() {
        Recorder x = halted();
        x.put(0, WAIT);
        x.range(0, 2, 0, 0, 0);
        x.start(0, 0, false);
        x.run(1);
        answers.add(x.look(Bench.LATEST));
    }

    /** At level 0, with this set: the words beside the edge are read and written. */
    private void data(int set, int edge) {
        Recorder x = halted();
        x.range(set, 2, 0, 512, 0);
        x.guard(true);
        for (int address = edge - 1; address <= edge; address++) {
            for (int op = 13; op <= 14; op++) {
                begin(x, set, 480);
                x.put(480, Bench.ins(9, 1, 0, 0, address));
                x.put(481, Bench.ins(op, 2, 1, 0, 0));
                int traps = x.look(Bench.TRAPS);
                x.run(2);
                answers.add(x.look(Bench.TRAPS) - traps);
                answers.add(x.look(Bench.LATEST));
            }
        }
    }

    /** At level 0, with this set: the words beside the edge are done. */
    private void code(int set, int edge) {
        Recorder x = halted();
        x.guard(true);
        for (int address = edge - 1; address <= edge; address++) {
            begin(x, set, address);
            int traps = x.look(Bench.TRAPS);
            x.put(address, WAIT);
            x.run(1);
            answers.add(x.look(Bench.TRAPS) - traps);
            answers.add(x.look(Bench.LATEST));
        }
    }

    /** It is to go on at the address, at level 0, with this set; nothing is guarded until then. */
    private static void begin(Recorder x, int set, int address) {
        x.halt();
        x.pool(24, 31);
        x.put(490, Bench.ins(21, 1));
        x.put(491, Bench.ins(9, 7, 0, 0, address));
        x.put(492, Bench.ins(26, 0));
        x.start(490, 2, false);
        x.run(2);
        x.put(Bench.area(1) + 1, 4 * set);
        x.run(1);
    }
}
