import java.lang.reflect.Field;
import java.lang.reflect.Method;
import java.lang.reflect.Modifier;
import java.util.TreeSet;

/** Promise 1, and the public face. */
public final class NewObjectTest {
    public static void main(String[] args) {
        everythingIsZero();
        noRangesAndNoGuard();
        noTimerAndNoTables();
        face();
        Bench.end();
    }

    private static void everythingIsZero() {
        Bench b = new Bench("new");
        for (int which = 0; which <= 12; which++) {
            b.look(which, which == Bench.LATEST ? AreaCore.NONE : 0);
        }
        for (int k = 0; k < 8; k++) {
            b.register(Bench.D, k, 0);
            b.register(Bench.A, k, 0);
        }
        b.lists(0, 0);
        b.run(5, 0);
        b.due("halt()", b.x.halt(), false);
        b.due("NONE", AreaCore.NONE, -1);
        Bench words = new Bench("new words");
        for (int address = 0; address < 512; address++) {
            words.word(address, 0);
        }
    }

    private static void noRangesAndNoGuard() {
        Bench b = Bench.ready("new, no guard", 3).words(0, Bench.ins(1, 4), Bench.ins(13, 0));
        b.go(0, 2);
        b.untrapped();
        b.x.guard(true);
        b.run(1, 1);
        b.trapped(1, 4, 1);
    }

    private static void noTimerAndNoTables() {
        Bench b = new Bench("new, no timer");
        b.x.pool(2, 31);
        b.words(0, Bench.ins(18, 0));
        b.x.start(0, 2, true);
        b.run(300, 300);
        b.look(Bench.PENDING, 0);
        b.look(Bench.TAKEN, 0);
        b.x.put(0, 0);
        b.run(1, 1);
        b.look(Bench.PC, 8);
        b.x.request(2);
        b.x.put(8, Bench.ins(28, 1));
        b.run(2, 2);
        b.look(Bench.PC, 8);
        b.look(Bench.TAKEN, 1);
    }

    private static void face() {
        Bench b = new Bench("face");
        TreeSet<String> names = new TreeSet<>();
        for (Method method : AreaCore.class.getDeclaredMethods()) {
            if (!Modifier.isPrivate(method.getModifiers())) {
                names.add(method.toString());
            }
        }
        for (Field field : AreaCore.class.getDeclaredFields()) {
            if (!Modifier.isPrivate(field.getModifiers())) {
                names.add(field.toString());
            }
        }
        String[] due = {
            "public boolean AreaCore.halt()",
            "public boolean AreaCore.put(int,int)",
            "public boolean AreaCore.request(int)",
            "public int AreaCore.list(int)",
            "public int AreaCore.look(int)",
            "public int AreaCore.register(int,int) throws java.lang.IndexOutOfBoundsException",
            "public int AreaCore.run(int) throws java.lang.IllegalArgumentException",
            "public int AreaCore.word(int)",
            "public static final int AreaCore.NONE",
            "public void AreaCore.guard(boolean)",
            "public void AreaCore.pool(int,int) throws java.lang.IllegalArgumentException,"
                + "java.lang.IllegalStateException",
            "public void AreaCore.range(int,int,int,int,int)"
                + " throws java.lang.IllegalArgumentException",
            "public void AreaCore.start(int,int,boolean) throws java.lang.IllegalArgumentException,"
                + "java.lang.IllegalStateException",
            "public void AreaCore.tables(int,int)",
            "public void AreaCore.timer(int,int) throws java.lang.IllegalArgumentException",
        };
        for (String name : due) {
            b.due(name, names.remove(name), true);
        }
        b.due("other members " + names, names.size(), 0);
        b.due("final", Modifier.isFinal(AreaCore.class.getModifiers()), true);
        b.due("constructors", AreaCore.class.getDeclaredConstructors().length, 1);
    }
}
