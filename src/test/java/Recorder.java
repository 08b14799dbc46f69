import java.util.ArrayList;
import java.util.List;
import java.util.function.Consumer;
import java.util.function.Function;

/**
 * An AreaCore that remembers its calls, so that they can be made again on a new object: one object
 * is good for 512 calls only, and looking at all its words alone takes as many.
 */
final class Recorder {
    private static final int MOST_CALLS = 512;

    private final AreaCore core = new AreaCore();
    private final List<Function<AreaCore, Object>> calls = new ArrayList<>();

    /** A new object with the same past. */
    Recorder again() {
        Recorder other = new Recorder();
        for (Function<AreaCore, Object> call : calls) {
            try {
                other.make(call);
            } catch (RuntimeException e) {
                // It threw the first time, too: there it was looked at.
                continue;
            }
        }
        return other;
    }

    private Object make(Function<AreaCore, Object> call) {
        calls.add(call);
        if (calls.size() > MOST_CALLS) {
            throw new AssertionError("the test makes more than 512 calls on one object");
        }
        return call.apply(core);
    }

    private void change(Consumer<AreaCore> call) {
        make(x -> {
            call.accept(x);
            return "nothing";
        });
    }

    boolean put(int address, int v) {
        return (Boolean) make(x -> x.put(address, v));
    }

    void pool(int n, int last) {
        change(x -> x.pool(n, last));
    }

    void tables(int table, int other) {
        change(x -> x.tables(table, other));
    }

    void range(int s, int range, int low, int high, int rights) {
        change(x -> x.range(s, range, low, high, rights));
    }

    void guard(boolean on) {
        change(x -> x.guard(on));
    }

    void timer(int n, int p) {
        change(x -> x.timer(n, p));
    }

    boolean request(int p) {
        return (Boolean) make(x -> x.request(p));
    }

    void start(int pc, int level, boolean enabled) {
        change(x -> x.start(pc, level, enabled));
    }

    boolean halt() {
        return (Boolean) make(AreaCore::halt);
    }

    int run(int n) {
        return (Integer) make(x -> x.run(n));
    }

    int register(int of, int k) {
        return (Integer) make(x -> x.register(of, k));
    }

    int word(int address) {
        return (Integer) make(x -> x.word(address));
    }

    int look(int which) {
        return (Integer) make(x -> x.look(which));
    }

    int list(int which) {
        return (Integer) make(x -> x.list(which));
    }
}
