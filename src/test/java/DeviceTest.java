/** Promises 1, 2 and what of() answers of devices (18). */
public final class DeviceTest {
    private static final Bench BENCH = new Bench("DeviceTest");

    public static void main(String[] args) {
        newObject();
        addressAndSeed();
        draws();
        wrongFacts();
        factsOfStates();
        BENCH.ends();
    }

    private static void newObject() {
        BeamHouse x = new BeamHouse();
        for (int d = 0; d < 4; d++) {
            for (int what = 0; what <= 16; what++) {
                BENCH.due("new of(" + d + ", " + what + ")", x.of(d, what), what == 1 ? d + 1 : 0);
            }
            BENCH.due("new listed", x.listed(d, 0), 0);
            BENCH.due("new tick", x.tick(d), 0);
            BENCH.due("a tick of an idle one sends nothing", x.of(d, 10), 0);
        }
        BENCH.due("new tape", x.tape(0, 0), 0);
    }

    private static void addressAndSeed() {
        BeamHouse x = new BeamHouse();
        BENCH.due("device(-1)", x.device(-1, 9, 9), 0);
        BENCH.due("device(4)", x.device(4, 9, 9), 0);
        BENCH.due("device(max)", x.device(Integer.MAX_VALUE, 9, 9), 0);
        BENCH.due("device", x.device(2, -77, 5), 1);
        BENCH.due("its address", x.of(2, 1), -77);
        BENCH.due("again", x.device(2, 0, 5), 1);
        BENCH.due("its address", x.of(2, 1), 0);
        x.discover(2, 1);
        BENCH.due("asking", x.device(2, 8, 8), 0);
        BENCH.due("its address stays", x.of(2, 1), 0);
        x.call(0, 2, 1);
        BENCH.due("calling", x.device(0, 8, 8), 0);
        x.talk(0, 1, 1);
        BENCH.due("first", x.device(0, 8, 8), 0);
        BENCH.due("second", x.device(1, 8, 8), 0);
        BENCH.due("addresses stay", x.of(0, 1) * 10 + x.of(1, 1), 12);
    }

    private static void draws() {
        int[] seeds = {0, 1, 2, 3, -1, 77, Integer.MAX_VALUE, Integer.MIN_VALUE, 123456789, -987654321};
        for (int seed : seeds) {
            BeamHouse x = new BeamHouse();
            x.device(0, 1, seed);
            long next = seed;
            for (int k = 0; k < 5; k++) {
                next = (next * 1103515245L + 12345L) & 0xFFFFFFFFL;
                BENCH.due("link drawn from " + seed, x.call(0, 2, 1), (next >> 16) % 126 + 1);
                for (int i = 0; i < 4; i++) {
                    x.tick(0);
                }
            }
        }
        BeamHouse y = new BeamHouse();
        for (int d = 0; d < 4; d++) {
            BENCH.due("link drawn from the first seed", y.call(d, 9, 1), (d * 1103515245L + 12345 >> 16) % 126 + 1);
        }
        BeamHouse x = new BeamHouse();
        x.device(0, 1, 1);
        BENCH.due("link drawn from 1", x.call(0, 2, 1), 81);
    }

    private static void wrongFacts() {
        BeamHouse x = new BeamHouse();
        BENCH.due("of(-1, 0)", x.of(-1, 0), -9);
        BENCH.due("of(4, 1)", x.of(4, 1), -9);
        BENCH.due("of(0, -1)", x.of(0, -1), -9);
        BENCH.due("of(0, 17)", x.of(0, 17), -9);
        BENCH.due("of(0, min)", x.of(0, Integer.MIN_VALUE), -9);
    }

    private static void factsOfStates() {
        BeamHouse x = new BeamHouse();
        x.device(0, 1, 1);
        x.call(0, 2, 5);
        facts(x, 0, "calling", 2, 1, 81, 0, 0, 0, 0, 0, 0, 0, 16);
        x.talk(0, 1, 1);
        facts(x, 0, "first", 3, 1, 81, 5, 0, 0, 0, 0, 4, 0, 0, 1, 0, 0, 0, 1, 0);
        facts(x, 1, "second", 4, 2, 81, 5, 0, 0, 0, 0, 4, 0, 0, 1, 0, 0, 0, 0, 0);
        x.store(0, 97, 1, 60, 0, 1);
        x.put(0, 97, 1);
        facts(x, 0, "asked", 3, 1, 81, 5, 0, 0, 2, 0, 2, 0, 0, 1, 0, 1, 1, 1, 0);
        x.tick(0);
        BENCH.due("the turn is given", x.of(0, 15), 0);
        x.talk(0, 1, 1);
        facts(x, 0, "answered", 3, 1, 81, 5, 2, 1, 1, 0, 3, 0, 0, 2, 0, 1, 1, 1, 0);
        facts(x, 1, "answering", 4, 2, 81, 5, 0, 2, 1, 0, 3, 0, 0, 3, 0, 0, 0, 0, 0);
        x.end(0);
        Bench.go(x, 1);
        facts(x, 0, "before the end", 3, 1, 81, 5, 3, 2, 0, 0, 4, 1, 0, 3, 0, 1, 160, 1, 0);
        Bench.go(x, 1);
        BENCH.due("ended", x.of(0, 0) + x.of(1, 0), 0);
        facts(x, 0, "ended", 0, 1, 0, 0, 0, 0, 0, 0, 0, 0, 0);
        facts(x, 1, "ended", 0, 2, 0, 0, 0, 0, 0, 0, 0, 0, 0);
        BENCH.due("what it asked for is told behind the end", x.of(0, 14), 160);
        BENCH.due("objects stay", x.of(0, 13) + x.of(1, 13), 2);
    }

    private static void facts(BeamHouse x, int d, String when, int... due) {
        for (int what = 0; what < due.length; what++) {
            BENCH.due(when + ": of(" + d + ", " + what + ")", x.of(d, what), due[what]);
        }
    }
}
