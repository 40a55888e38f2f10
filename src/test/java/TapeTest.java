import java.util.Arrays;

/** THE TAPE: promises 3 (feed), 4 (bend), 5 (take), 19 (tape), and the CHECK. */
public final class TapeTest {
    private static final Bench BENCH = new Bench("TapeTest");

    public static void main(String[] args) {
        feedsTwenty();
        feedsUpTo1000();
        feedsNone();
        bends();
        bendsNothing();
        takes();
        takesUpTo1000();
        leavesTheRest();
        takesOfNone();
        lengthOfTape();
        checkOfBytes();
        checkOfNothing();
        checkOfTooMany();
        anotherWhat();
        BENCH.ends();
    }

    private static void feedsTwenty() {
        BENCH.sentence("four in each number, the highest first: how many it has.");
        BeamHouse x = new BeamHouse();
        BENCH.due("feed", x.feed(0x01020304, 0x85868788, -1, 0, 0x7F80C0C1), 20);
        int[] due = {1, 2, 3, 4, 0x85, 0x86, 0x87, 0x88, 255, 255, 255, 255, 0, 0, 0, 0, 0x7F, 0x80, 0xC0, 0xC1};
        BENCH.due("its bytes", Bench.text(Bench.onTape(x)), Bench.text(due));
        BENCH.due("behind what it has", x.feed(Integer.MIN_VALUE, 0, 0, 0, 0), 40);
        BENCH.due("behind what it has", x.bend(20, 0) * 1000 + x.bend(19, 0), 128193);
    }

    private static void feedsUpTo1000() {
        BENCH.sentence("Twenty bytes come onto THE TAPE (1000 at most)");
        BeamHouse x = new BeamHouse();
        for (int i = 1; i <= 50; i++) {
            BENCH.due("feed", x.feed(i, i, i, i, i), i * 20);
        }
        BENCH.due("the last byte", x.bend(999, 0), 50);
        BENCH.due("one beyond", x.bend(1000, 0), -1);
        BENCH.due("no more", x.feed(1, 2, 3, 4, 5), -1);
    }

    private static void feedsNone() {
        BENCH.sentence("-1, and none comes: no room.");
        BeamHouse x = new BeamHouse();
        x.call(0, 2, 1);
        x.take(0);
        for (int i = 1; i <= 48; i++) {
            BENCH.due("behind what was taken", x.feed(i, i, i, i, i), 16 + i * 20);
        }
        BENCH.due("the next one is 996", x.feed(7, 7, 7, 7, 7), 996);
        int sum = x.tape(1, 996);
        BENCH.due("room for 4, not for 20", x.feed(1, 2, 3, 4, 5), -1);
        BENCH.due("none comes", x.tape(0, 0), 996);
        BENCH.due("all is as it was", x.tape(1, 996), sum);
        BENCH.due("the first four do not, either", x.bend(996, 0), -1);
        x.take(0);
        BENCH.due("behind a take there is room", x.feed(1, 2, 3, 4, 5), 20);
        for (int n = 18; n <= 21; n++) {
            BeamHouse y = new BeamHouse();
            Bench.hear(y, 0, Bench.join(Bench.times(n - 18, Bench.wrap(21, 17)), Bench.times(21 - n, Bench.wrap(25, 17))));
            BENCH.due("taken", y.take(0), n);
            for (int i = 0; i < 48; i++) {
                y.feed(1, 2, 3, 4, 5);
            }
            BENCH.due("behind " + (960 + n), y.feed(1, 2, 3, 4, 5), n <= 20 ? 980 + n : -1);
            BENCH.due("on the tape", y.tape(0, 0), n <= 20 ? 980 + n : 981);
        }
    }

    private static void bends() {
        BENCH.sentence("Byte i of THE TAPE, exclusive or the lowest byte of mask: what it was;");
        BeamHouse x = new BeamHouse();
        x.feed(0x10203040, 0, 0, 0, 0xFF);
        BENCH.due("bend", x.bend(1, 0x0F), 0x20);
        BENCH.due("bent", x.bend(1, 0x3FF), 0x2F);
        BENCH.due("by the lowest byte alone", x.bend(1, -256), 0xD0);
        BENCH.due("not bent", x.bend(1, 0), 0xD0);
        BENCH.due("the last byte", x.bend(19, -1), 255);
        BENCH.due("the last byte", x.bend(19, 0), 0);
        BENCH.due("the others stay", x.bend(0, 0) * 256 + x.bend(2, 0), 0x1030);
    }

    private static void bendsNothing() {
        BENCH.sentence("-1 if there is none.");
        BeamHouse x = new BeamHouse();
        BENCH.due("of an empty tape", x.bend(0, 1), -1);
        x.feed(1, 2, 3, 4, 5);
        int sum = x.tape(1, 20);
        for (int i : new int[] {-1, 20, 999, 1000, Integer.MIN_VALUE, Integer.MAX_VALUE}) {
            BENCH.due("bend(" + i + ")", x.bend(i, 1), -1);
        }
        BENCH.due("nothing is bent", x.tape(1, 20), sum);
        x.take(0);
        BENCH.due("of a tape that is empty again", x.bend(0, 1), -1);
    }

    private static void takes() {
        BENCH.sentence("comes onto THE TAPE, in place of what it had: how many bytes;");
        BeamHouse x = new BeamHouse();
        x.feed(1, 2, 3, 4, 5);
        BENCH.due("nothing on the air", x.take(0), 0);
        BENCH.due("in place of what it had", x.tape(0, 0), 0);
        x.call(0, 2, 3);
        x.feed(1, 2, 3, 4, 5);
        BENCH.due("a call", x.take(0), 16);
        BENCH.due("in place of what it had", x.tape(0, 0), 16);
        int[] due = Bench.wrap(Bench.call(1, 2, 1, 3));
        BENCH.due("its bytes", Arrays.toString(Bench.onTape(x)), Arrays.toString(due));
        BENCH.due("the air is taken", x.of(0, 10), 0);
        Bench.ticks(x, 0, 2);
        BENCH.due("two calls", x.take(0), 32);
    }

    /** An idle device 1 that was told GOON with TURN n times: it answers NO to each, 6 bytes. */
    private static BeamHouse withAnswers(int n) {
        BeamHouse x = new BeamHouse();
        Bench.lay(x, Bench.times(166, Bench.wrap(25, 17)));
        for (int left = n; left > 0; left -= 166) {
            x.hear(1, 0, 6 * Math.min(166, left));
        }
        return x;
    }

    private static void takesUpTo1000() {
        BENCH.sentence("The AIR of a DEVICE (1000 bytes of it at most)");
        for (int n : new int[] {1, 166, 167, 666}) {
            BeamHouse x = withAnswers(n);
            BENCH.due("on the air", x.of(1, 10), 6 * n);
            BENCH.due("how many", x.take(1), Math.min(1000, 6 * n));
            BENCH.due("on the tape", x.tape(0, 0), Math.min(1000, 6 * n));
        }
    }

    private static void leavesTheRest() {
        BENCH.sentence("what is left stays.");
        BeamHouse x = withAnswers(666);
        int[] all = Bench.times(666, Bench.wrap(24, 31));
        for (int from = 0; from < all.length; from += 1000) {
            int[] due = Arrays.copyOfRange(all, from, Math.min(all.length, from + 1000));
            BENCH.due("bytes on the air", x.of(1, 10), all.length - from);
            BENCH.due("how many", x.take(1), due.length);
            for (int n = due.length; n > 0; n -= 83) {
                BENCH.due(n + " from byte " + from + " on", x.tape(1, n), Bench.check(due, n));
            }
        }
        BENCH.due("nothing is left", x.of(1, 10), 0);
        BENCH.due("nothing more", x.take(1), 0);
        BeamHouse y = withAnswers(167);
        y.take(1);
        Bench.hearFrame(y, 1, 11, 83);
        BENCH.due("2 are left, 6 come behind", y.take(1), 8);
        int[] rest = Bench.join(Arrays.copyOfRange(all, 1000, 1002), Bench.wrap(10, 31));
        BENCH.due("in order", Bench.text(Bench.onTape(y)), Bench.text(rest));
    }

    private static void takesOfNone() {
        BENCH.sentence("what is left stays. -1 no such DEVICE.");
        BeamHouse x = new BeamHouse();
        x.feed(1, 2, 3, 4, 5);
        BENCH.due("take(-1)", x.take(-1), -1);
        BENCH.due("take(4)", x.take(4), -1);
        BENCH.due("the tape stays", x.tape(0, 0) * 10 + x.bend(3, 0), 201);
    }

    private static void lengthOfTape() {
        BENCH.sentence("How many bytes THE TAPE has (what 0)");
        BeamHouse x = new BeamHouse();
        BENCH.due("empty", x.tape(0, 99), 0);
        x.feed(0, 0, 0, 0, 0);
        for (int n : new int[] {Integer.MIN_VALUE, -1, 0, 21, Integer.MAX_VALUE}) {
            BENCH.due("n does not matter", x.tape(0, n), 20);
        }
    }

    private static void checkOfBytes() {
        BENCH.sentence("for each byte: c becomes c exclusive or it; eight times: c becomes half of it (cut), exclusive or 33800 if it was odd; CHECK is 65535 less c.");
        BeamHouse x = new BeamHouse();
        x.feed(0x31323334, 0x35363738, 0x39000000, -1, 0xC07DC100);
        BENCH.due("of 1 to 9", x.tape(1, 9), 0x906E);
        int[] bytes = Bench.onTape(x);
        for (int n = 0; n <= 20; n++) {
            BENCH.due("of " + n, x.tape(1, n), Bench.check(bytes, n));
        }
        for (int octet = 0; octet < 256; octet += 5) {
            x.bend(0, x.bend(0, 0) ^ octet);
            BENCH.due("of " + octet, x.tape(1, 1), Bench.check(new int[] {octet}, 1));
        }
    }

    private static void checkOfNothing() {
        BENCH.sentence("CHECK: c is 65535;");
        BeamHouse x = new BeamHouse();
        BENCH.due("of no byte of an empty tape", x.tape(1, 0), 0);
        x.feed(-1, -1, -1, -1, -1);
        BENCH.due("of no byte", x.tape(1, 0), 0);
        BENCH.due("of two bytes 255", x.tape(1, 2), 65535);
    }

    private static void checkOfTooMany() {
        BENCH.sentence("CHECK of its first n bytes (1; -1 if there are not so many).");
        BeamHouse x = new BeamHouse();
        BENCH.due("one of an empty tape", x.tape(1, 1), -1);
        x.feed(1, 2, 3, 4, 5);
        BENCH.due("all", x.tape(1, 20), Bench.check(Bench.onTape(x), 20));
        for (int n : new int[] {21, 1000, 1001, Integer.MAX_VALUE, -1, Integer.MIN_VALUE}) {
            BENCH.due("of " + n, x.tape(1, n), -1);
        }
        for (int i = 0; i < 49; i++) {
            x.feed(i, i, i, i, i);
        }
        BENCH.due("of 1000", x.tape(1, 1000) >= 0 ? 1 : 0, 1);
        BENCH.due("of 1001", x.tape(1, 1001), -1);
    }

    private static void anotherWhat() {
        BENCH.sentence("-9 another what.");
        BeamHouse x = new BeamHouse();
        for (int what : new int[] {-1, 2, 3, Integer.MIN_VALUE, Integer.MAX_VALUE}) {
            BENCH.due("tape(" + what + ")", x.tape(what, 0), -9);
            BENCH.due("and too many", x.tape(what, 9999), -9);
        }
    }
}
