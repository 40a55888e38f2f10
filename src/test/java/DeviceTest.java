/** "What it is", a DRAW, and promises 1 (a new object) and 2 (device). */
public final class DeviceTest {
    private static final Bench BENCH = new Bench("DeviceTest");
    private static final int[] NO_DEVICES = {-1, 4, Integer.MIN_VALUE, Integer.MAX_VALUE};
    private static final int[] INTS = {0, 1, -1, 77, 123456789, -987654321, Integer.MAX_VALUE, Integer.MIN_VALUE};

    public static void main(String[] args) {
        newObject();
        devicesThereAre();
        addressAtFirst();
        addressIsAnInt();
        seedAtFirst();
        storeHasSix();
        namesOfOneToEight();
        upTo120Bytes();
        airInOrder();
        airIsFull();
        lostFrameIsSent();
        lastOf512Calls();
        drawGoesRound();
        drawWithoutSign();
        drawModulo();
        deviceOfIdle();
        deviceOfAnother();
        BENCH.ends();
    }

    private static void newObject() {
        BENCH.sentence("Four DEVICES, all IDLE.");
        BeamHouse x = new BeamHouse();
        for (int d = 0; d < 4; d++) {
            BENCH.due("all of device " + d, Bench.text(Bench.facts(x, d)), "0 " + (d + 1) + " 0".repeat(15));
            BENCH.due("listed", x.listed(d, 0), 0);
            BENCH.due("tick", x.tick(d), 0);
            BENCH.due("a tick of an idle one sends nothing", x.of(d, 10), 0);
        }
        BENCH.due("the tape", x.tape(0, 0), 0);
    }

    private static void devicesThereAre() {
        BENCH.sentence("DEVICES 0 to 3");
        for (int d : NO_DEVICES) {
            BeamHouse x = Bench.linked(3);
            x.feed(1, 2, 3, 4, 5);
            String before = Bench.allFacts(x);
            BENCH.due("device", x.device(d, 1, 1), 0);
            BENCH.due("take", x.take(d), -1);
            BENCH.due("hear", x.hear(d, 0, 1), -1);
            BENCH.due("talk of it", x.talk(d, 0, 1), -1);
            BENCH.due("talk to it", x.talk(0, d, 1), -1);
            BENCH.due("tick", x.tick(d), -1);
            BENCH.due("discover", x.discover(d, 1), -1);
            BENCH.due("listed", x.listed(d, 0), 0);
            BENCH.due("call", x.call(d, 1, 1), -1);
            BENCH.due("end", x.end(d), -1);
            BENCH.due("store", x.store(d, 97, 1, 1, 1, 1), -1);
            BENCH.due("put", x.put(d, 97, 1), -1);
            BENCH.due("get", x.get(d, 97, 1), -1);
            BENCH.due("size", x.size(d, 97, 1), -1);
            BENCH.due("octet", x.octet(d, 97, 1, 0), -1);
            BENCH.due("of", x.of(d, 0), -9);
            BENCH.due("all is as it was", Bench.allFacts(x), before);
            BENCH.due("the tape, too", x.tape(0, 0), 20);
        }
        BeamHouse x = new BeamHouse();
        BENCH.due("0 and 3 are there", x.device(0, 5, 5) + x.device(3, 5, 5), 2);
        BENCH.due("0 and 3 are there", x.store(0, 97, 1, 1, 1, 1) + x.store(3, 97, 1, 1, 1, 1), 2);
    }

    private static void addressAtFirst() {
        BENCH.sentence("an ADDRESS (an int; their number and 1 at first)");
        BeamHouse x = new BeamHouse();
        for (int d = 0; d < 4; d++) {
            BENCH.due("of " + d, x.of(d, 1), d + 1);
            int link = x.call(d, 9, 2);
            BENCH.dueAir("it calls by it", x, d, Bench.text(Bench.call(d + 1, 9, link, 2)));
        }
    }

    private static void addressIsAnInt() {
        BENCH.sentence("ADDRESSES are 4 bytes, the lowest first.");
        for (int address : INTS) {
            BeamHouse x = new BeamHouse();
            x.device(0, address, 0);
            x.device(1, ~address, 0);
            BENCH.due("told", x.of(0, 1), address);
            x.call(0, ~address, 3);
            BENCH.dueAir("of who calls, of whom", x, 0, Bench.text(Bench.call(address, ~address, 1, 3)));
            x.tick(0);
            BENCH.due("it is found by all its bits", x.talk(0, 1, 1), 2);
            BENCH.due("both are linked", x.of(0, 0) * 10 + x.of(1, 0), 34);
        }
        for (int bit = 0; bit < 32; bit++) {
            BeamHouse x = new BeamHouse();
            x.device(1, 0x01020304 ^ 1 << bit, 0);
            Bench.hearFrame(x, 1, 255, 147, 9, 0, 0, 0, 4, 3, 2, 1, 5, 3);
            BENCH.due("unlike in bit " + bit, x.of(1, 0), 0);
        }
    }

    private static void seedAtFirst() {
        BENCH.sentence("a SEED (an int; the number at first)");
        BeamHouse x = new BeamHouse();
        for (int d = 0; d < 4; d++) {
            BENCH.due("the link that " + d + " draws", x.call(d, 9, 1), 1 + Bench.draw(d, 1, 126));
        }
    }

    private static void storeHasSix() {
        BENCH.sentence("a STORE of OBJECTS (6 at most;");
        BeamHouse x = new BeamHouse();
        for (int i = 1; i <= 8; i++) {
            BENCH.due("store of " + i, x.store(2, 64 + i, 1, i, i, 0), i <= 6 ? 1 : -5);
            BENCH.due("objects", x.of(2, 13), Math.min(i, 6));
        }
        for (int i = 1; i <= 8; i++) {
            BENCH.due("those that are there", x.size(2, 64 + i, 1), i <= 6 ? i : -1);
        }
        BENCH.due("each device has its own", x.store(1, 71, 1, 1, 1, 1) * 10 + x.of(1, 13), 11);
    }

    private static void namesOfOneToEight() {
        BENCH.sentence("a NAME of 1 to 8 bytes");
        BeamHouse x = new BeamHouse();
        long name = Bench.name("abcdefgh");
        for (int n = -1; n <= 10; n++) {
            boolean fits = n >= 1 && n <= 8;
            x = new BeamHouse();
            BENCH.due("store with " + n, x.store(0, name, n, 3, 0, 0), fits ? 1 : -4);
            BENCH.due("size with " + n, x.size(0, name, n), fits ? 3 : -1);
            BENCH.due("with one less", x.size(0, name, n - 1), -1);
            BENCH.due("with one more", x.size(0, name, n + 1), -1);
        }
    }

    private static void upTo120Bytes() {
        BENCH.sentence("up to 120 bytes)");
        for (int size : new int[] {Integer.MIN_VALUE, -1, 0, 1, 119, 120, 121, Integer.MAX_VALUE}) {
            BeamHouse x = new BeamHouse();
            boolean fits = size >= 0 && size <= 120;
            BENCH.due("store of " + size, x.store(0, 97, 1, size, 7, 0), fits ? 1 : -4);
            BENCH.due("size", x.size(0, 97, 1), fits ? size : -1);
            BENCH.due("the last byte", x.octet(0, 97, 1, size - 1), fits && size > 0 ? 7 : -1);
            BENCH.due("one more", x.octet(0, 97, 1, size), -1);
        }
    }

    private static void airInOrder() {
        BENCH.sentence("an AIR (bytes that it sends, in order, till they are taken;");
        BeamHouse x = new BeamHouse();
        Bench.hear(x, 0, Bench.join(Bench.wrap(13, 83), Bench.wrap(11, 83), Bench.wrap(15, 17)));
        BENCH.due("they lie there", x.of(0, 10), 6 + 6 + 7);
        x.call(0, 2, 3);
        BENCH.dueAir("in order", x, 0, "12 31 | 10 31 | 14 31 | 255 147 1 0 0 0 2 0 0 0 1 3");
        BENCH.due("then it is empty", x.of(0, 10), 0);
        BENCH.due("nothing is taken twice", x.take(0), 0);
    }

    /** An idle device 1 whose air has n bytes: of NO of link 10 (7 bytes, one is escaped) and of link 12 (6 bytes). */
    private static BeamHouse withAir(int n) {
        int sevens = n % 6;
        int[] sixes = Bench.times(166, Bench.wrap(25, 17));
        BeamHouse x = new BeamHouse();
        Bench.hear(x, 1, Bench.times(sevens, Bench.wrap(21, 17)));
        Bench.lay(x, sixes);
        for (int left = (n - 7 * sevens) / 6; left > 0; left -= 166) {
            x.hear(1, 0, 6 * Math.min(166, left));
        }
        BENCH.due("on its air", x.of(1, 10), n);
        return x;
    }

    private static void airIsFull() {
        BENCH.sentence("a FRAME with which they would be more than 4000 is lost)");
        BeamHouse x = withAir(3994);
        Bench.hearFrame(x, 1, 21, 17);
        BENCH.due("with 7 they would be 4001", x.of(1, 10), 3994);
        Bench.hearFrame(x, 1, 25, 17);
        BENCH.due("with 6 they are 4000", x.of(1, 10), 4000);
        Bench.hearFrame(x, 1, 25, 17);
        BENCH.due("no more", x.of(1, 10), 4000);
        BENCH.due("all that went is whole", x.talk(1, 2, 1), 4 + 662);
        BENCH.due("none is dropped", x.of(2, 12), 0);
        Bench.hearFrame(x, 1, 25, 17);
        BENCH.dueAir("there is room again", x, 1, "24 31");
        BeamHouse z = withAir(4000);
        BENCH.due("all of it may be taken", Bench.text(z.take(1), z.take(1), z.take(1), z.take(1), z.take(1)), "1000 1000 1000 1000 0");
        BeamHouse w = withAir(3993);
        Bench.hearFrame(w, 1, 21, 17);
        BENCH.due("with 7 they are 4000", w.of(1, 10), 4000);
        BeamHouse y = withAir(3995);
        Bench.hearFrame(y, 1, 25, 17);
        BENCH.due("with 6 they would be 4001", y.of(1, 10), 3995);
    }

    private static void lostFrameIsSent() {
        BENCH.sentence("a FRAME with which they would be more than 4000 is lost)");
        BeamHouse x = withAir(3990);
        Bench.hearFrame(x, 1, Bench.call(9, 2, 5, 3));
        BENCH.due("the YES is lost, not the link", x.of(1, 10) * 10 + x.of(1, 0), 39904);
        Bench.hearFrame(x, 1, 11, 17);
        BENCH.due("a shorter one goes", x.of(1, 10), 3996);
        x.store(1, 97, 1, 0, 0, 0);
        x.put(1, 97, 1);
        Bench.hearFrame(x, 1, 11, 17);
        BENCH.due("DATA is lost, the turn is given", x.of(1, 10) * 10 + x.of(1, 15), 39960);
        BENCH.due("its part waits", x.of(1, 6), 1);
        Bench.hearFrame(x, 1, 11, 1 | 1 << 5);
        BENCH.due("it was sent: it may be known to be there", x.of(1, 6) * 10 + x.of(1, 4), 1);
        BeamHouse y = withAir(4000);
        BENCH.due("the CALL is lost, not the calling", y.call(1, 9, 1) * 10 + y.of(1, 0), 812);
        BENCH.due("still full", y.of(1, 10), 4000);
    }

    private static void lastOf512Calls() {
        BENCH.sentence("An object is used for at most 512 calls after it has been made");
        BeamHouse x = new BeamHouse();
        x.device(0, 1, 7);
        for (int k = 2; k <= 511; k++) {
            BENCH.due("call " + k, x.store(0, 97 + k % 6, 1, k % 121, k, 1), 1);
        }
        BENCH.due("call 512", x.octet(0, 97 + 511 % 6, 1, 26), 511 + 26 & 255);
    }

    private static void drawGoesRound() {
        BENCH.sentence("its SEED becomes it times 1103515245, and 12345 (an int that goes round)");
        for (int seed : INTS) {
            BeamHouse x = new BeamHouse();
            x.device(0, 1, seed);
            for (int k = 1; k <= 5; k++) {
                BENCH.due("draw " + k + " of " + seed, x.call(0, 2, 1), 1 + Bench.draw(seed, k, 126));
                Bench.ticks(x, 0, 4);
            }
        }
        BeamHouse x = new BeamHouse();
        x.device(0, 1, 1);
        BENCH.due("the first draw of 1 is 16838", x.call(0, 2, 1), 1 + 16838 % 126);
    }

    /** A seed of 2 becomes -2087924461 (1103527590 times 2 and 12345 round): 33676 above, if it has no sign. */
    private static void drawWithoutSign() {
        BENCH.sentence("then the bits above the lowest 16, without a sign, modulo n.");
        BeamHouse x = new BeamHouse();
        BENCH.due("a seed below 0 then", 2 * 1103515245 + 12345 < 0 ? 1 : 0, 1);
        BENCH.due("the link", x.call(2, 9, 1), 1 + 33676 % 126);
    }

    private static void drawModulo() {
        BENCH.sentence("A DRAW of a DEVICE below n");
        boolean[] drawn = new boolean[127];
        for (int seed = 0; seed < 3000; seed++) {
            BeamHouse x = new BeamHouse();
            x.device(0, 1, seed * 7919);
            int link = x.call(0, 2, 1);
            BENCH.due("a link", link >= 1 && link <= 126 ? 1 : 0, 1);
            drawn[link] = true;
        }
        BENCH.due("the least and the largest are drawn", drawn[1] && drawn[126] ? 1 : 0, 1);
    }

    private static void deviceOfIdle() {
        BENCH.sentence("ADDRESS and SEED of an IDLE DEVICE: 1;");
        BeamHouse x = new BeamHouse();
        BENCH.due("device", x.device(2, -77, 5), 1);
        BENCH.due("its address", x.of(2, 1), -77);
        BENCH.due("again", x.device(2, 0, 6), 1);
        BENCH.due("its address", x.of(2, 1), 0);
        BENCH.due("its seed", x.call(2, 1, 1), 1 + Bench.draw(6, 1, 126));
        Bench.ticks(x, 2, 4);
        BENCH.due("idle again", x.device(2, 8, 9), 1);
        BENCH.due("its new seed", x.call(2, 1, 1), 1 + Bench.draw(9, 1, 126));
    }

    private static void deviceOfAnother() {
        BENCH.sentence("1; 0 another.");
        for (int state = 1; state <= 4; state++) {
            BeamHouse x = Bench.inState(state);
            BENCH.due("device in state " + state, x.device(0, 8, 8), 0);
            BENCH.due("its address stays", x.of(0, 1), 1);
            BENCH.due("its state, too", x.of(0, 0), state);
            int draws = 1 + Bench.leaveState(x, state);
            BENCH.due("idle", x.of(0, 0), 0);
            BENCH.due("its seed stays", x.call(0, 2, 1), 1 + Bench.draw(0, draws, 126));
        }
    }
}
