/** Promises 2 (put) and 13 (word). */
public final class MemoryTest {
    public static void main(String[] args) {
        everyWord();
        noSuchAddress();
        whileItRuns();
        Bench.end();
    }

    private static void everyWord() {
        Bench b = new Bench("words");
        int[] addresses = {0, 1, 255, 256, 447, 448, 510, 511};
        for (int address : addresses) {
            b.due("put(" + address + ")", b.x.put(address, address * 7 - 900), true);
        }
        for (int address : addresses) {
            b.word(address, address * 7 - 900);
        }
        b.word(2, 0);
        b.x.put(511, Integer.MIN_VALUE);
        b.word(511, Integer.MIN_VALUE);
        b.x.put(511, 0);
        b.word(511, 0);
    }

    private static void noSuchAddress() {
        Bench b = new Bench("no words");
        Seen before = Seen.of(b.x);
        int[] addresses = {-1, 512, 513, -512, Integer.MIN_VALUE, Integer.MAX_VALUE, 1 << 16};
        for (int address : addresses) {
            b.due("put(" + address + ")", b.x.put(address, 5), false);
            b.word(address, 0);
        }
        b.word(511, 0);
        b.seen("refused", before);
    }

    private static void whileItRuns() {
        Bench b = Bench.ready("put while it runs", 1).words(0, Bench.ins(18, 0));
        b.go(0, 3);
        b.x.guard(true);
        b.due("put", b.x.put(0, Bench.ins(1, 9)), true);
        b.word(0, Bench.ins(1, 9));
        b.x.guard(false);
        b.run(1, 1);
        b.register(Bench.D, 0, 9);
    }
}
