/** Promises 3 (feed), 4 (bend), 5 (take), 19 (tape). */
public final class TapeTest {
    private static final Bench BENCH = new Bench("TapeTest");

    public static void main(String[] args) {
        feeds();
        bends();
        takes();
        takesInParts();
        airIsFull();
        checks();
        BENCH.ends();
    }

    private static void feeds() {
        BeamHouse x = new BeamHouse();
        BENCH.due("feed", x.feed(0x01020304, 0x85868788, -1, 0, 0x7F80C0C1), 20);
        int[] due = {1, 2, 3, 4, 0x85, 0x86, 0x87, 0x88, 255, 255, 255, 255, 0, 0, 0, 0, 0x7F, 0x80, 0xC0, 0xC1};
        for (int i = 0; i < 20; i++) {
            BENCH.due("byte " + i, x.bend(i, 0), due[i]);
        }
        for (int i = 2; i <= 50; i++) {
            BENCH.due("feed", x.feed(i, i, i, i, i), i * 20);
        }
        BENCH.due("no room", x.feed(1, 2, 3, 4, 5), -1);
        BENCH.due("none comes", x.tape(0, 0), 1000);
        BENCH.due("the last byte", x.bend(999, 0), 50);
        x.take(0);
        x.call(0, 2, 1);
        x.take(0);
        BENCH.due("behind what was taken", x.feed(7 << 24, 0, 0, 0, 0), 36);
        BENCH.due("behind what was taken", x.bend(16, 0), 7);
        for (int i = 0; i < 48; i++) {
            x.feed(0, 0, 0, 0, 0);
        }
        BENCH.due("996 bytes", x.tape(0, 0), 996);
        BENCH.due("no room for all", x.feed(1, 2, 3, 4, 5), -1);
        BENCH.due("none of them comes", x.tape(0, 0), 996);
    }

    private static void bends() {
        BeamHouse x = new BeamHouse();
        BENCH.due("bend of nothing", x.bend(0, 1), -1);
        x.feed(0x10203040, 0, 0, 0, 0);
        BENCH.due("bend", x.bend(1, 0x0F), 0x20);
        BENCH.due("bent", x.bend(1, 0x3FF), 0x2F);
        BENCH.due("bent by the lowest byte", x.bend(1, -256), 0xD0);
        BENCH.due("not bent", x.bend(1, 0), 0xD0);
        BENCH.due("bend(-1)", x.bend(-1, 1), -1);
        BENCH.due("bend(20)", x.bend(20, 1), -1);
        BENCH.due("bend(min)", x.bend(Integer.MIN_VALUE, 1), -1);
        BENCH.due("bend(19)", x.bend(19, 1), 0);
    }

    private static void takes() {
        BeamHouse x = new BeamHouse();
        BENCH.due("take(-1)", x.take(-1), -1);
        BENCH.due("take(4)", x.take(4), -1);
        x.feed(1, 2, 3, 4, 5);
        BENCH.due("no device: the tape stays", x.take(4) + x.tape(0, 0), 19);
        BENCH.due("nothing on the air", x.take(0), 0);
        BENCH.due("in place of what it had", x.tape(0, 0), 0);
        x.call(0, 2, 3);
        x.feed(1, 2, 3, 4, 5);
        BENCH.due("a call", x.take(0), 16);
        BENCH.due("in place of what it had", x.tape(0, 0), 16);
        BENCH.due("its bytes", java.util.Arrays.toString(Bench.onTape(x)),
            java.util.Arrays.toString(Bench.wrap(255, 147, 1, 0, 0, 0, 2, 0, 0, 0, 1, 3)));
        BENCH.due("the air is taken", x.of(0, 10), 0);
        x.tick(0);
        x.tick(0);
        BENCH.due("two calls", x.take(0), 32);
    }

    /** An idle device answers NO to each GOON with TURN: 6 bytes each, till its air is full. */
    private static void takesInParts() {
        BeamHouse x = new BeamHouse();
        int[] goon = Bench.wrap(25, 17);
        int[] many = Bench.join(goon, goon, goon, goon, goon, goon, goon, goon, goon, goon);
        int no = Bench.wrap(24, 31).length;
        BENCH.due("a NO", no, 6);
        Bench.lay(x, many);
        for (int i = 0; i < 66; i++) {
            BENCH.due("frames", x.hear(1, 0, many.length), 10);
        }
        BENCH.due("660 times", x.of(1, 10), 3960);
        x.hear(1, 0, many.length);
        BENCH.due("a frame too many is lost", x.of(1, 10), 3996);
        x.hear(1, 0, many.length);
        BENCH.due("and more", x.of(1, 10), 3996);
        int[] due = Bench.wrap(24, 31);
        int at = 0;
        for (int left = 3996; left > 0; left -= 1000) {
            BENCH.due("take", x.take(1), Math.min(1000, left));
            BENCH.due("what is left stays", x.of(1, 10), Math.max(0, left - 1000));
            for (int octet : Bench.onTape(x)) {
                BENCH.due("byte " + at, octet, due[at % 6]);
                at++;
            }
        }
        BENCH.due("all", at, 3996);
        BENCH.due("nothing more", x.take(1), 0);
    }

    /** NO of link 10 has a byte that is escaped: with 4 of 7 bytes and 662 of 6 the air is full to the last. */
    private static void airIsFull() {
        BeamHouse x = new BeamHouse();
        BENCH.due("a NO with an escaped byte", Bench.wrap(20, 31).length, 7);
        for (int i = 0; i < 4; i++) {
            Bench.hearFrame(x, 1, 21, 17);
        }
        int[] goon = Bench.wrap(25, 17);
        Bench.lay(x, goon);
        for (int i = 1; i <= 661; i++) {
            x.hear(1, 0, goon.length);
        }
        BENCH.due("room for one more", x.of(1, 10), 3994);
        Bench.hearFrame(x, 1, 21, 17);
        BENCH.due("but not for a longer one", x.of(1, 10), 3994);
        Bench.hear(x, 1, goon);
        BENCH.due("full", x.of(1, 10), 4000);
        Bench.hear(x, 1, goon);
        BENCH.due("no more", x.of(1, 10), 4000);
        BENCH.due("all are whole", Bench.sent(x, 1).size(), 666);
    }

    private static void checks() {
        BeamHouse x = new BeamHouse();
        BENCH.due("tape(0)", x.tape(0, 99), 0);
        BENCH.due("tape(1, 0)", x.tape(1, 0), 0);
        BENCH.due("tape(1, 1)", x.tape(1, 1), -1);
        BENCH.due("tape(1, -1)", x.tape(1, -1), -1);
        BENCH.due("tape(2)", x.tape(2, 0), -9);
        BENCH.due("tape(-1)", x.tape(-1, 0), -9);
        x.feed(0x31323334, 0x35363738, 0x39000000, -1, 0xC07DC100);
        BENCH.due("the check of 1 to 9", x.tape(1, 9), 0x906E);
        int[] bytes = Bench.onTape(x);
        for (int n = 0; n <= 20; n++) {
            BENCH.due("check of " + n, x.tape(1, n), Bench.check(bytes, n));
        }
        BENCH.due("tape(1, 21)", x.tape(1, 21), -1);
        BENCH.due("tape(0, -5)", x.tape(0, -5), 20);
    }
}
