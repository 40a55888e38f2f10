/** Promises 13 (store), 16 (size), 17 (octet). */
public final class StoreTest {
    private static final Bench BENCH = new Bench("StoreTest");
    private static final long NAME = Bench.name("abcdefgh");

    public static void main(String[] args) {
        namesByTheirLowestBytes();
        bytesByStartAndStep();
        inPlaceOfOne();
        storesNotHere();
        storesNoSuchThing();
        storesWithoutRoom();
        sizes();
        octets();
        anyState();
        BENCH.ends();
    }

    private static void namesByTheirLowestBytes() {
        BENCH.sentence("NAME is bytes of name, the lowest n (the highest of these first);");
        BeamHouse x = new BeamHouse();
        x.store(0, Bench.name("ab"), 2, 2, 1, 1);
        BENCH.due("ab", x.size(0, Bench.name("ab"), 2), 2);
        BENCH.due("xab, the lowest two", x.size(0, Bench.name("xab"), 2), 2);
        BENCH.due("b alone", x.size(0, Bench.name("ab"), 1), -1);
        BENCH.due("ba", x.size(0, Bench.name("ba"), 2), -1);
        BENCH.due("0 above", x.store(0, 0x610062, 1, 5, 0, 0), 1);
        BENCH.due("0 above", x.size(0, 0x62, 1), 5);
        BENCH.due("bytes above 127", x.store(0, -1, 8, 6, 0, 0), 1);
        BENCH.due("bytes above 127", x.size(0, -1, 8), 6);
        BENCH.due("seven of them are another name", x.size(0, -1, 7), -1);
        BENCH.due("the least byte", x.store(0, 1, 1, 9, 0, 0) * 10 + x.size(0, 1, 1), 19);
        BENCH.due("the highest bit of 8", x.store(0, Long.MIN_VALUE | 0x01010101010101L | 1L << 56, 8, 7, 0, 0), 1);
        BENCH.due("of one byte", x.store(0, 255, 1, 8, 0, 0) * 10 + x.size(0, -1, 1), 18);
        Peer peer = Peer.ofFirst(BENCH, 1);
        peer.x.get(0, Bench.name("xyz"), 2);
        peer.x.tick(0);
        peer.due("the highest of these first", "3 16 0 131 0 8 1 0 5 121 122");
    }

    private static void bytesByStartAndStep() {
        BENCH.sentence("it has size bytes, byte i being the lowest byte of i times step, and start: 1.");
        int[][] ways = {{0, 0}, {5, 3}, {-3, -7}, {255, 1}, {256, 256}, {Integer.MAX_VALUE, Integer.MAX_VALUE},
            {Integer.MIN_VALUE, 1}, {1, Integer.MIN_VALUE}, {0, 0x01000001}};
        for (int[] way : ways) {
            BeamHouse x = new BeamHouse();
            BENCH.due("store", x.store(0, NAME, 8, 120, way[0], way[1]), 1);
            for (int i = 0; i < 120; i++) {
                BENCH.due("byte " + i, x.octet(0, NAME, 8, i), ((long) i * way[1] + way[0]) & 255);
            }
        }
    }

    private static void inPlaceOfOne() {
        BENCH.sentence("An OBJECT comes into a DEVICE's STORE");
        BeamHouse x = new BeamHouse();
        for (int i = 1; i <= 6; i++) {
            x.store(2, 64 + i, 1, i, i, 0);
        }
        BENCH.due("in place of one", x.store(2, 66, 1, 20, 9, 0), 1);
        BENCH.due("six still", x.of(2, 13), 6);
        BENCH.due("it is the new one", x.size(2, 66, 1) * 100 + x.octet(2, 66, 1, 19), 2009);
        BENCH.due("a shorter one", x.store(2, 66, 1, 1, 8, 0), 1);
        BENCH.due("a shorter one", x.octet(2, 66, 1, 0) * 10 + x.octet(2, 66, 1, 1), 79);
        for (int i = 1; i <= 6; i++) {
            BENCH.due("the others stay", x.size(2, 64 + i, 1), i == 2 ? 1 : i);
        }
    }

    private static void storesNotHere() {
        BENCH.sentence("-1; -4 n, size, a byte 0 in the NAME; -5 no room.");
        BeamHouse x = new BeamHouse();
        BENCH.due("store(-1)", x.store(-1, 97, 1, 1, 0, 0), -1);
        BENCH.due("store(4), and all else wrong", x.store(4, 0, 0, -1, 0, 0), -1);
    }

    private static void storesNoSuchThing() {
        BENCH.sentence("-4 n, size, a byte 0 in the NAME;");
        BeamHouse x = new BeamHouse();
        for (int n : new int[] {0, -1, 9, 64, Integer.MIN_VALUE, Integer.MAX_VALUE}) {
            BENCH.due("n " + n, x.store(0, NAME, n, 1, 0, 0), -4);
        }
        for (int size : new int[] {-1, 121, Integer.MIN_VALUE, Integer.MAX_VALUE}) {
            BENCH.due("size " + size, x.store(0, NAME, 8, size, 0, 0), -4);
        }
        BENCH.due("0 alone", x.store(0, 0, 1, 1, 0, 0), -4);
        for (int k = 0; k < 8; k++) {
            BENCH.due("a byte 0 at " + k, x.store(0, NAME & ~(255L << 8 * k), 8, 1, 0, 0), -4);
        }
        BENCH.due("a name that is too short for n", x.store(0, 0x6162, 3, 1, 0, 0), -4);
        BENCH.due("none is there", x.of(0, 13), 0);
    }

    private static void storesWithoutRoom() {
        BENCH.sentence("a byte 0 in the NAME; -5 no room.");
        BeamHouse x = new BeamHouse();
        for (int i = 1; i <= 6; i++) {
            x.store(0, 64 + i, 1, i, i, 0);
        }
        BENCH.due("no room", x.store(0, 97, 1, 1, 1, 1), -5);
        BENCH.due("no room, and size", x.store(0, 97, 1, 121, 1, 1), -4);
        BENCH.due("no room, and a byte 0", x.store(0, 0, 1, 1, 1, 1), -4);
        BENCH.due("not there", x.size(0, 97, 1), -1);
        BENCH.due("six are", x.of(0, 13), 6);
    }

    private static void sizes() {
        BENCH.sentence("Of the OBJECT of a NAME in a DEVICE's STORE: how many bytes; -1 there is none.");
        BeamHouse x = new BeamHouse();
        BENCH.due("an empty store", x.size(0, 97, 1), -1);
        x.store(0, 97, 1, 0, 0, 0);
        x.store(0, NAME, 8, 120, 0, 0);
        BENCH.due("0", x.size(0, 97, 1), 0);
        BENCH.due("120", x.size(0, NAME, 8), 120);
        BENCH.due("another name", x.size(0, 98, 1), -1);
        BENCH.due("names that may not be", x.size(0, 0, 1) + x.size(0, 97, 0) + x.size(0, 97, 2) + x.size(0, NAME, 9), -4);
        BENCH.due("another device", x.size(1, 97, 1), -1);
        BENCH.due("no devices", x.size(-1, 97, 1) + x.size(4, 97, 1), -2);
    }

    private static void octets() {
        BENCH.sentence("Its byte i (0 .. 255); -1 if there is none.");
        BeamHouse x = new BeamHouse();
        x.store(0, 97, 1, 0, 9, 0);
        x.store(0, 98, 1, 120, 255, -1);
        BENCH.due("the first", x.octet(0, 98, 1, 0), 255);
        BENCH.due("the last", x.octet(0, 98, 1, 119), 136);
        for (int i : new int[] {-1, 120, 121, Integer.MIN_VALUE, Integer.MAX_VALUE}) {
            BENCH.due("byte " + i, x.octet(0, 98, 1, i), -1);
        }
        BENCH.due("of an empty one", x.octet(0, 97, 1, 0), -1);
        BENCH.due("of none", x.octet(0, 99, 1, 0), -1);
        BENCH.due("of a name that may not be", x.octet(0, 98, 0, 0) + x.octet(0, 98, 9, 0) + x.octet(0, 0, 1, 0), -3);
        BENCH.due("of another device", x.octet(1, 98, 1, 0), -1);
        BENCH.due("of no device", x.octet(-1, 98, 1, 0) + x.octet(4, 98, 1, 0), -2);
    }

    private static void anyState() {
        BENCH.sentence("An OBJECT comes into a DEVICE's STORE: NAME is bytes of name");
        for (int state = 0; state <= 4; state++) {
            BeamHouse x = Bench.inState(state);
            BENCH.due("in state " + state, x.store(0, 97, 1, 3, 7, 0), 1);
            BENCH.due("it is there", x.size(0, 97, 1) * 10 + x.octet(0, 97, 1, 2), 37);
            BENCH.due("its state stays, nothing is sent", x.of(0, 0) * 10 + x.of(0, 10), state * 10);
        }
    }
}
