import java.util.ArrayList;
import java.util.List;

/** FIND and HERE, the ticks (8) of an ASKING one, and promises 9 (discover) and 10 (listed). */
public final class FindTest {
    private static final Bench BENCH = new Bench("FindTest");
    private static final int[] SLOTS = {1, 6, 8, 16};

    public static void main(String[] args) {
        howManySlots();
        slotsThereAre();
        onlyIdle();
        addressUnlike();
        drawsBelowSlots();
        drawsAnew();
        atItsSlot();
        forThatAddress();
        noneBehind255();
        hereForAsking();
        listOfEight();
        listedOnce();
        asksSlotBySlot();
        findsAll();
        discovers();
        discoversNot();
        listedNone();
        BENCH.ends();
    }

    private static boolean mayBeSlots(int slots) {
        return slots == 1 || slots == 6 || slots == 8 || slots == 16;
    }

    /** Device 0 draws 0 first, whatever the slots are. */
    private static void howManySlots() {
        BENCH.sentence("how many slots (1, 6, 8, 16)");
        for (int slots = 0; slots < 256; slots++) {
            BeamHouse x = new BeamHouse();
            Bench.hearFrame(x, 0, Bench.find(9, slots, 0));
            BENCH.dueAir(slots + " slots", x, 0, mayBeSlots(slots) ? Bench.text(Bench.here(1, 9, 0)) : "");
            BENCH.due("drawn only then", x.call(0, 9, 1), 1 + Bench.draw(0, mayBeSlots(slots) ? 2 : 1, 126));
        }
        BeamHouse x = withSlot6();
        Bench.hearFrame(x, 0, Bench.find(7, 7, 255));
        Bench.hearFrame(x, 0, Bench.find(7, 16, 6));
        BENCH.dueAir("255 of 7 slots is nothing", x, 0, Bench.text(Bench.here(1, 7, 6)));
    }

    /** Device 0 has slot 6 of 16 (16838 % 16) for address 7. */
    private static BeamHouse withSlot6() {
        BeamHouse x = new BeamHouse();
        x.device(0, 1, 1);
        Bench.hearFrame(x, 0, Bench.find(7, 16, 0));
        BENCH.dueAir("not at slot 0", x, 0, "");
        return x;
    }

    private static void slotsThereAre() {
        BENCH.sentence("a slot or 255.");
        for (int slots : SLOTS) {
            BeamHouse x = withSlot6();
            Bench.hearFrame(x, 0, Bench.find(7, slots, 6));
            BENCH.dueAir("slot 6 of " + slots, x, 0, slots > 6 ? Bench.text(Bench.here(1, 7, 6)) : "");
            for (int slot : new int[] {slots, slots + 1, 100, 254}) {
                Bench.hearFrame(x, 0, Bench.find(7, slots, slot));
                BENCH.dueAir("slot " + slot + " of " + slots, x, 0, "");
            }
            Bench.hearFrame(x, 0, Bench.find(7, 16, 6));
            BENCH.dueAir("it has its slot still", x, 0, Bench.text(Bench.here(1, 7, 6)));
        }
    }

    private static void onlyIdle() {
        BENCH.sentence("An IDLE DEVICE (ADDRESS unlike): at slot 0 it DRAWS");
        for (int state = 1; state <= 4; state++) {
            BeamHouse x = Bench.inState(state);
            BENCH.dueNothing("FIND in state " + state, x, 0, Bench.find(9, 1, 0));
            int draws = 1 + Bench.leaveState(x, state);
            BENCH.due("it did not draw", x.call(0, 2, 1), 1 + Bench.draw(0, draws, 126));
        }
        BeamHouse x = withSlot6();
        x.discover(0, 1);
        Bench.hearFrame(x, 0, Bench.find(7, 16, 6));
        Bench.hearFrame(x, 0, Bench.find(7, 16, 255));
        BENCH.dueAir("asking itself", x, 0, "");
        Bench.ticks(x, 0, 2);
        x.take(0);
        Bench.hearFrame(x, 0, Bench.find(7, 16, 6));
        BENCH.dueAir("idle again, it has its slot", x, 0, Bench.text(Bench.here(1, 7, 6)));
    }

    private static void addressUnlike() {
        BENCH.sentence("An IDLE DEVICE (ADDRESS unlike)");
        BeamHouse x = new BeamHouse();
        BENCH.dueNothing("its own address", x, 0, Bench.find(1, 1, 0));
        BENCH.due("it did not draw", x.call(0, 2, 1), 1);
        BeamHouse y = withSlot6();
        y.device(0, 7, 0);
        BENCH.dueNothing("its own address now", y, 0, Bench.find(7, 16, 6));
        Bench.hearFrame(y, 0, Bench.find(7 | 1 << 31, 1, 0));
        BENCH.dueAir("unlike in the highest bit", y, 0, Bench.text(Bench.here(7, 7 | 1 << 31, 0)));
    }

    private static void drawsBelowSlots() {
        BENCH.sentence("at slot 0 it DRAWS its slot below slots;");
        for (int slots : SLOTS) {
            boolean[] drawn = new boolean[slots];
            for (int seed = 0; seed < 50; seed++) {
                int mine = Bench.draw(seed * 987654321, 1, slots);
                drawn[mine] = true;
                BeamHouse x = new BeamHouse();
                x.device(0, 1, seed * 987654321);
                for (int slot = 0; slot < slots; slot++) {
                    Bench.hearFrame(x, 0, Bench.find(-9, slots, slot));
                    BENCH.due("at slot " + slot, x.take(0) > 0 ? 1 : 0, slot == mine ? 1 : 0);
                }
            }
            BENCH.due("the first and the last slot were drawn", drawn[0] && drawn[slots - 1] ? 1 : 0, 1);
        }
    }

    /** Seed 0 draws 0, then 21468 % 16 = 12, then 9988 % 16 = 4. */
    private static void drawsAnew() {
        BENCH.sentence("at slot 0 it DRAWS");
        BeamHouse x = new BeamHouse();
        hears(x, "slot 0", -9, 0, true);
        hears(x, "slot 0 again draws anew", -9, 0, false);
        hears(x, "its old slot would be 0, its new one is 12", -9, 12, true);
        hears(x, "the third draw", -9, 0, false);
        hears(x, "not 12 any more", -9, 12, false);
        hears(x, "4", -9, 4, true);
    }

    private static void hears(BeamHouse x, String what, int asker, int slot, boolean answers) {
        Bench.hearFrame(x, 0, Bench.find(asker, 16, slot));
        BENCH.dueAir(what, x, 0, answers ? Bench.text(Bench.here(1, asker, slot)) : "");
    }

    private static void atItsSlot() {
        BENCH.sentence("it sends HERE: its ADDRESS, that of who asks, the slot;");
        BeamHouse x = withSlot6();
        for (int slot = 1; slot < 16; slot++) {
            hears(x, "slot " + slot, 7, slot, slot == 6);
        }
        hears(x, "doubled: once more", 7, 6, true);
        BeamHouse y = new BeamHouse();
        y.device(0, 0x81828384, 0);
        Bench.hearFrame(y, 0, Bench.find(0x91929394, 8, 0));
        BENCH.dueAir("all bytes of both", y, 0, "254 191 132 131 130 129 148 147 146 145 0");
    }

    private static void forThatAddress() {
        BENCH.sentence("at its slot (if it has one for that ADDRESS since a slot 0)");
        BeamHouse x = new BeamHouse();
        x.device(0, 1, 1);
        hears(x, "no slot 0 yet", 7, 6, false);
        hears(x, "slot 0", 7, 0, false);
        hears(x, "another one asks", 8, 6, false);
        hears(x, "that one asks", 7, 6, true);
        int slot = Bench.draw(1, 2, 16);
        hears(x, "another one's slot 0", 8, 0, false);
        hears(x, "the first one's is gone", 7, 6, false);
        hears(x, "even at the new slot", 7, slot, false);
        hears(x, "it is the other one's", 8, slot, true);
    }

    private static void noneBehind255() {
        BENCH.sentence("255 (of any ADDRESS): it has none any more.");
        for (int asker : new int[] {7, 8, 1, -1}) {
            BeamHouse x = withSlot6();
            BENCH.dueNothing("255 is not answered", x, 0, Bench.find(asker, 16, 255));
            hears(x, "it has none, by 255 of " + asker, 7, 6, false);
        }
        BeamHouse x = withSlot6();
        Bench.hearFrame(x, 0, Bench.find(7, 1, 255));
        hears(x, "255 of other slots, too", 7, 6, false);
        BENCH.due("255 does not draw", x.call(0, 2, 1), 1 + Bench.draw(1, 2, 126));
    }

    private static void hereForAsking() {
        BENCH.sentence("HERE (bit 0 of byte 0 is 0) for an ASKING one (the second ADDRESS is its own)");
        for (int state = 0; state <= 4; state++) {
            BeamHouse x = Bench.inState(state);
            Bench.hearFrame(x, 0, Bench.here(5, 1, 0));
            BENCH.due("state " + state, x.of(0, 16), state == 1 ? 1 : 0);
        }
        BENCH.dueNothing("for another one", Bench.inState(1), 0, Bench.here(5, 2, 0));
        BENCH.dueNothing("for one unlike in the highest bit", Bench.inState(1), 0, Bench.here(5, 1 | 1 << 31, 0));
        for (int head : new int[] {255, 253, 252, 0, 2}) {
            BENCH.dueNothing("of head " + head, Bench.inState(1), 0, Bench.change(Bench.here(5, 1, 0), 0, head));
        }
    }

    private static void listOfEight() {
        BENCH.sentence("the first one comes into its LIST (8 at most)");
        BeamHouse x = Bench.inState(1);
        for (int i = 1; i <= 10; i++) {
            Bench.hearFrame(x, 0, Bench.here(-i * 100, 1, 0));
            BENCH.due("how many", x.of(0, 16), Math.min(i, 8));
        }
        for (int i = 0; i < 10; i++) {
            BENCH.due("listed " + i, x.listed(0, i), i < 8 ? -(i + 1) * 100 : 0);
        }
        Bench.ticks(x, 0, 7);
        BENCH.due("an idle one has it still", x.of(0, 0) * 100 + x.of(0, 16), 8);
        BENCH.due("an idle one has it still", x.listed(0, 7), -800);
    }

    private static void listedOnce() {
        BENCH.sentence("if it is not there.");
        BeamHouse x = Bench.inState(1);
        for (int address : new int[] {5, 0, 5, -5, 0, -5, 5}) {
            Bench.hearFrame(x, 0, Bench.here(address, 1, address & 7));
        }
        BENCH.due("three", x.of(0, 16), 3);
        BENCH.due("each once", Bench.text(x.listed(0, 0), x.listed(0, 1), x.listed(0, 2)), "5 0 -5");
    }

    private static void asksSlotBySlot() {
        BENCH.sentence("ASKING: the next slot's FIND, behind the last one that of 255: it is IDLE.");
        for (int slots : SLOTS) {
            BeamHouse x = new BeamHouse();
            x.device(0, 0x01020304, 0);
            x.discover(0, slots);
            for (int slot = 0; slot < slots; slot++) {
                BENCH.due("tick", x.tick(0), 1);
                BENCH.dueAir("find", x, 0, "255 63 4 3 2 1 " + slots + " " + slot);
            }
            BENCH.due("the last tick", x.tick(0), 0);
            BENCH.dueAir("the last find", x, 0, "255 63 4 3 2 1 " + slots + " 255");
            BENCH.due("an idle one's tick", x.tick(0), 0);
            BENCH.dueAir("sends nothing", x, 0, "");
            x.discover(0, 8);
            x.tick(0);
            BENCH.dueAir("asking again begins at slot 0", x, 0, "255 63 4 3 2 1 8 0");
        }
    }

    /** All others hear each find; each answers at the slot that it drew, and is listed then. */
    private static void findsAll() {
        BENCH.sentence("FIND (from bit 1, byte 2 on): ADDRESS of who asks");
        for (int slots : SLOTS) {
            for (int seed = -3; seed < 60; seed += 7) {
                BeamHouse x = new BeamHouse();
                for (int d = 1; d < 4; d++) {
                    x.device(d, d * 1000, seed * d * 31);
                }
                x.discover(0, slots);
                List<Integer> due = new ArrayList<>();
                for (int slot = 0; slot <= slots; slot++) {
                    asksAll(x, seed, slots, slot, due);
                }
                BENCH.due("listed", Bench.text(x.listed(0, 0), x.listed(0, 1), x.listed(0, 2)), Bench.text(Bench.array(due)));
            }
        }
    }

    private static void asksAll(BeamHouse x, int seed, int slots, int slot, List<Integer> due) {
        x.tick(0);
        int n = x.take(0);
        for (int d = 1; d < 4; d++) {
            BENCH.due("heard", x.hear(d, 0, n), 1);
        }
        for (int d = 1; d < 4; d++) {
            boolean isIts = Bench.draw(seed * d * 31, 1, slots) == slot;
            BENCH.due("answers", x.talk(d, 0, 1), isIts ? 1 : 0);
            if (isIts) {
                due.add(d * 1000);
            }
        }
    }

    private static void discovers() {
        BENCH.sentence("An IDLE DEVICE asks: it is ASKING, its LIST is empty: 1.");
        BeamHouse x = Bench.inState(1);
        BENCH.due("asking", x.of(0, 0), 1);
        BENCH.due("nothing is sent before a tick", x.of(0, 10), 0);
        Bench.hearFrame(x, 0, Bench.here(5, 1, 0));
        Bench.ticks(x, 0, 7);
        BENCH.due("the list stays", x.of(0, 16), 1);
        for (int slots : SLOTS) {
            BENCH.due("discover of " + slots, x.discover(0, slots), 1);
            BENCH.due("the list is empty", x.of(0, 16) + x.listed(0, 0), 0);
            Bench.ticks(x, 0, slots + 1);
        }
        BENCH.due("it draws nothing", x.call(0, 2, 1), 1);
    }

    private static void discoversNot() {
        BENCH.sentence("-1; -2 not IDLE; -3 slots.");
        BeamHouse x = new BeamHouse();
        BENCH.due("discover(-1)", x.discover(-1, 6), -1);
        BENCH.due("discover(4), and slots", x.discover(4, 7), -1);
        for (int slots = -2; slots <= 20; slots++) {
            BENCH.due(slots + " slots", mayBeSlots(slots) ? -3 : x.discover(0, slots), -3);
        }
        BENCH.due("many slots", x.discover(0, 255) + x.discover(0, 256 + 6) + x.discover(0, Integer.MIN_VALUE), -9);
        BENCH.due("still idle", x.of(0, 0), 0);
        for (int state = 1; state <= 4; state++) {
            BeamHouse y = Bench.inState(state);
            if (state == 1) {
                Bench.hearFrame(y, 0, Bench.here(5, 1, 0));
            }
            BENCH.due("in state " + state, y.discover(0, 6), -2);
            BENCH.due("in state " + state + ", and slots", y.discover(0, 7), -2);
            BENCH.due("its state stays", y.of(0, 0), state);
            BENCH.due("its list, too", y.listed(0, 0), state == 1 ? 5 : 0);
        }
    }

    private static void listedNone() {
        BENCH.sentence("ADDRESS i of a DEVICE's LIST; 0 if there is none.");
        BeamHouse x = Bench.inState(1);
        BENCH.due("of an empty list", x.listed(0, 0), 0);
        Bench.hearFrame(x, 0, Bench.here(Integer.MIN_VALUE, 1, 0));
        BENCH.due("the first one", x.listed(0, 0), Integer.MIN_VALUE);
        for (int i : new int[] {-1, 1, 7, 8, Integer.MIN_VALUE, Integer.MAX_VALUE}) {
            BENCH.due("listed(0, " + i + ")", x.listed(0, i), 0);
        }
        BENCH.due("another device's", x.listed(1, 0), 0);
        BENCH.due("no device's", x.listed(-1, 0) + x.listed(4, 0), 0);
    }
}
