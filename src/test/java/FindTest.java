import java.util.ArrayList;
import java.util.List;

/** Promises 9 (discover), 10 (listed), and the ticks (8) of one that asks. */
public final class FindTest {
    private static final Bench BENCH = new Bench("FindTest");

    public static void main(String[] args) {
        arguments();
        for (int slots : new int[] {1, 6, 8, 16}) {
            asks(slots);
            finds(slots);
        }
        drawsAgain();
        slotOfOneAsker();
        onlyIdle();
        lists();
        BENCH.ends();
    }

    private static void arguments() {
        BeamHouse x = new BeamHouse();
        BENCH.due("discover(-1)", x.discover(-1, 6), -1);
        BENCH.due("discover(4, 7)", x.discover(4, 7), -1);
        for (int slots : new int[] {Integer.MIN_VALUE, -1, 0, 2, 5, 7, 9, 15, 17, 255}) {
            BENCH.due("slots " + slots, x.discover(0, slots), -3);
        }
        BENCH.due("still idle", x.of(0, 0), 0);
        BENCH.due("discover", x.discover(0, 6), 1);
        BENCH.due("asking", x.of(0, 0), 1);
        BENCH.due("nothing is sent before a tick", x.of(0, 10), 0);
        BENCH.due("not idle", x.discover(0, 6), -2);
        BENCH.due("not idle, and slots", x.discover(0, 7), -2);
        x.call(1, 3, 1);
        BENCH.due("calling", x.discover(1, 6), -2);
        BENCH.due("listed(-1)", x.listed(-1, 0), 0);
        BENCH.due("listed(4)", x.listed(4, 0), 0);
        BENCH.due("listed(0, -1)", x.listed(0, -1), 0);
        BENCH.due("listed(0, 0)", x.listed(0, 0), 0);
        BENCH.due("listed(0, 99)", x.listed(0, 99), 0);
        BENCH.due("tick(4)", x.tick(4), -1);
        BENCH.due("tick(-1)", x.tick(-1), -1);
    }

    private static void asks(int slots) {
        BeamHouse x = new BeamHouse();
        x.device(0, 0x01020304, 0);
        x.discover(0, slots);
        for (int slot = 0; slot < slots; slot++) {
            BENCH.due("tick", x.tick(0), 1);
            BENCH.due("find", Bench.air(x, 0), "255 63 4 3 2 1 " + slots + " " + slot);
        }
        BENCH.due("the last tick", x.tick(0), 0);
        BENCH.due("the last find", Bench.air(x, 0), "255 63 4 3 2 1 " + slots + " 255");
        BENCH.due("an idle one's tick", x.tick(0), 0);
        BENCH.due("sends nothing", Bench.air(x, 0), "");
        BENCH.due("asking again", x.discover(0, 8), 1);
        x.tick(0);
        BENCH.due("begins at slot 0", Bench.air(x, 0), "255 63 4 3 2 1 8 0");
    }

    /** All others hear each find; each answers at the slot that it drew, and is listed then. */
    private static void finds(int slots) {
        for (int seed = -3; seed < 60; seed += 7) {
            BeamHouse x = new BeamHouse();
            List<Integer> due = new ArrayList<>();
            int[] drawn = new int[4];
            for (int d = 1; d < 4; d++) {
                x.device(d, d * 1000, seed * d * 31);
                long next = (seed * d * 31) * 1103515245L + 12345L;
                drawn[d] = (int) ((next & 0xFFFFFFFFL) >> 16) % slots;
            }
            x.discover(0, slots);
            for (int slot = 0; slot <= slots; slot++) {
                x.tick(0);
                int n = x.take(0);
                for (int d = 1; d < 4; d++) {
                    BENCH.due("heard", x.hear(d, 0, n), 1);
                    if (drawn[d] == slot) {
                        due.add(d * 1000);
                    }
                }
                for (int d = 1; d < 4; d++) {
                    BENCH.due("answers", x.talk(d, 0, 1), drawn[d] == slot ? 1 : 0);
                }
            }
            BENCH.due("how many", x.of(0, 16), 3);
            for (int i = 0; i < 4; i++) {
                BENCH.due("listed " + i, x.listed(0, i), i < 3 ? due.get(i) : 0);
            }
            x.discover(0, 1);
            BENCH.due("the list is empty", x.of(0, 16), 0);
            BENCH.due("the list is empty", x.listed(0, 0), 0);
        }
    }

    private static int[] find(int asker, int slots, int slot) {
        return Bench.join(new int[] {255, 63}, Bench.address(asker), new int[] {slots, slot});
    }

    private static String here(int address, int asker, int slot) {
        return Bench.told(List.of(Bench.join(new int[] {254, 191}, Bench.address(address),
            Bench.address(asker), new int[] {slot})));
    }

    /** Seed 0 draws 0, then 21468 % 16 = 12, then 9988 % 16 = 4. */
    private static void drawsAgain() {
        BeamHouse x = new BeamHouse();
        x.device(1, -2, 0);
        Bench.hearFrame(x, 1, find(-9, 16, 0));
        BENCH.due("slot 0", Bench.air(x, 1), here(-2, -9, 0));
        Bench.hearFrame(x, 1, find(-9, 16, 0));
        BENCH.due("slot 0 again draws anew", Bench.air(x, 1), "");
        Bench.hearFrame(x, 1, find(-9, 16, 12));
        BENCH.due("its slot", Bench.air(x, 1), here(-2, -9, 12));
        Bench.hearFrame(x, 1, find(-9, 16, 12));
        BENCH.due("its slot, doubled", Bench.air(x, 1), here(-2, -9, 12));
        Bench.hearFrame(x, 1, find(-9, 16, 4));
        BENCH.due("another slot", Bench.air(x, 1), "");
        Bench.hearFrame(x, 1, find(-9, 16, 255));
        Bench.hearFrame(x, 1, find(-9, 16, 12));
        BENCH.due("behind 255 it has none", Bench.air(x, 1), "");
        Bench.hearFrame(x, 1, find(-9, 16, 0));
        BENCH.due("the third draw", Bench.air(x, 1), "");
        Bench.hearFrame(x, 1, find(-9, 16, 4));
        BENCH.due("the third draw", Bench.air(x, 1), here(-2, -9, 4));
    }

    private static void slotOfOneAsker() {
        BeamHouse x = new BeamHouse();
        x.device(1, 5, 1);
        Bench.hearFrame(x, 1, find(7, 16, 3));
        BENCH.due("no slot 0 yet", Bench.air(x, 1), "");
        Bench.hearFrame(x, 1, find(7, 16, 0));
        int slot = 16838 % 16;
        BENCH.due("not 0", Bench.air(x, 1), "");
        Bench.hearFrame(x, 1, find(8, 16, slot));
        BENCH.due("another asker", Bench.air(x, 1), "");
        Bench.hearFrame(x, 1, find(5, 16, slot));
        BENCH.due("its own address", Bench.air(x, 1), "");
        BENCH.due("slot 6", slot, 6);
        Bench.hearFrame(x, 1, find(7, 6, slot));
        BENCH.due("six slots have no slot 6", Bench.air(x, 1), "");
        Bench.hearFrame(x, 1, find(7, 16, slot));
        BENCH.due("its asker", Bench.air(x, 1), here(5, 7, slot));
        Bench.hearFrame(x, 1, find(8, 6, 255));
        Bench.hearFrame(x, 1, find(7, 16, slot));
        BENCH.due("255 of any address", Bench.air(x, 1), "");
    }

    private static void onlyIdle() {
        BeamHouse x = new BeamHouse();
        x.device(1, 2, 1);
        x.discover(1, 6);
        Bench.hearFrame(x, 1, find(7, 1, 0));
        BENCH.due("an asking one", Bench.air(x, 1), "");
        x.call(2, 9, 1);
        Bench.air(x, 2);
        Bench.hearFrame(x, 2, find(7, 1, 0));
        BENCH.due("a calling one", Bench.air(x, 2), "");
        BeamHouse y = Bench.linked(1);
        Bench.hearFrame(y, 0, find(7, 1, 0));
        Bench.hearFrame(y, 1, find(7, 1, 0));
        BENCH.due("linked ones", Bench.air(y, 0) + Bench.air(y, 1), "");
        Bench.hearFrame(y, 2, find(7, 1, 0));
        BENCH.due("an idle one", Bench.air(y, 2), here(3, 7, 0));
    }

    private static int[] hereFrame(int address, int asker, int slot) {
        return Bench.join(new int[] {254, 191}, Bench.address(address), Bench.address(asker), new int[] {slot});
    }

    private static void lists() {
        BeamHouse x = new BeamHouse();
        x.device(0, 77, 0);
        Bench.hearFrame(x, 0, hereFrame(5, 77, 0));
        BENCH.due("an idle one does not list", x.of(0, 16), 0);
        x.discover(0, 6);
        Bench.hearFrame(x, 0, hereFrame(5, 78, 0));
        BENCH.due("for another one", x.of(0, 16), 0);
        int[] wrong = hereFrame(5, 77, 0);
        wrong[0] = 255;
        Bench.hearFrame(x, 0, wrong);
        BENCH.due("with bit 0", x.of(0, 16), 0);
        Bench.hearFrame(x, 0, java.util.Arrays.copyOf(hereFrame(5, 77, 0), 10));
        Bench.hearFrame(x, 0, java.util.Arrays.copyOf(hereFrame(5, 77, 0), 12));
        BENCH.due("of another length", x.of(0, 16), 0);
        for (int i = 1; i <= 9; i++) {
            Bench.hearFrame(x, 0, hereFrame(-i * 100, 77, 0));
            Bench.hearFrame(x, 0, hereFrame(-100, 77, 3));
            BENCH.due("how many", x.of(0, 16), Math.min(i, 8));
        }
        for (int i = 0; i < 8; i++) {
            BENCH.due("listed " + i, x.listed(0, i), -(i + 1) * 100);
        }
        BENCH.due("listed 8", x.listed(0, 8), 0);
        for (int i = 0; i < 7; i++) {
            x.tick(0);
        }
        BENCH.due("idle", x.of(0, 0), 0);
        BENCH.due("the list stays", x.of(0, 16), 8);
        BENCH.due("the list stays", x.listed(0, 7), -800);
    }
}
