/** Promises 6 (hear) and 7 (talk): wrapping, hearing, and what frames have no meaning. */
public final class HearTest {
    private static final Bench BENCH = new Bench("HearTest");

    public static void main(String[] args) {
        arguments();
        wrapping();
        halves();
        drops();
        lengths();
        frameTooLong();
        noMeaning();
        talks();
        talkLimits();
        BENCH.ends();
    }

    private static void arguments() {
        BeamHouse x = new BeamHouse();
        BENCH.due("hear(-1)", x.hear(-1, 0, 0), -1);
        BENCH.due("hear(4)", x.hear(4, 99, 99), -1);
        BENCH.due("nothing of nothing", x.hear(0, 0, 0), 0);
        BENCH.due("hear(0, 0, 1)", x.hear(0, 0, 1), -2);
        x.feed(0, 0, 0, 0, 0);
        BENCH.due("all", x.hear(0, 0, 20), 0);
        BENCH.due("one more", x.hear(0, 0, 21), -2);
        BENCH.due("one on", x.hear(0, 1, 20), -2);
        BENCH.due("before", x.hear(0, -1, 5), -2);
        BENCH.due("negative", x.hear(0, 5, -1), -2);
        BENCH.due("round", x.hear(0, Integer.MAX_VALUE, Integer.MAX_VALUE), -2);
        BENCH.due("round", x.hear(0, 1, Integer.MAX_VALUE), -2);
        BENCH.due("the last", x.hear(0, 19, 1), 0);
        BENCH.due("none heard", x.of(0, 11) + x.of(0, 12), 0);
    }

    private static void wrapping() {
        BeamHouse x = new BeamHouse();
        x.device(0, 0x7DC1C0 | 0x20 << 24, 7);
        int link = x.call(0, 0xC0C17DC0, 7);
        x.take(0);
        int[] due = Bench.wrap(Bench.join(new int[] {255, 147}, Bench.address(0x207DC1C0),
            Bench.address(0xC0C17DC0), new int[] {link, 7}));
        BENCH.due("wrapped", java.util.Arrays.toString(Bench.onTape(x)), java.util.Arrays.toString(due));
        x.device(1, 0xC0C17DC0, 1);
        BENCH.due("heard", x.hear(1, 0, due.length), 1);
        BENCH.due("it is second", x.of(1, 0), 4);
        BENCH.due("the tape stays", x.tape(0, 0), due.length);
        BENCH.due("its yes", Bench.air(x, 1), Bench.told(java.util.List.of(Bench.join(new int[] {link * 2, 115},
            Bench.address(0xC0C17DC0), Bench.address(0x207DC1C0), new int[] {7}))));
    }

    private static void halves() {
        BeamHouse x = new BeamHouse();
        x.device(0, 0xC0, 0);
        x.call(0, 2, 3);
        int n = x.take(0);
        for (int i = 0; i < n - 1; i++) {
            BENCH.due("half", x.hear(1, i, 1), 0);
        }
        BENCH.due("whole", x.hear(1, n - 1, 1), 1);
        BENCH.due("second", x.of(1, 0), 4);
        BENCH.due("heard", x.of(1, 11), 1);
        BENCH.due("dropped", x.of(1, 12), 0);
        x.hear(2, 0, 5);
        BENCH.due("anew", x.hear(2, 0, n), 1);
        BENCH.due("what there was is nothing", x.of(2, 12), 0);
        BENCH.due("not behind 192", x.hear(3, 1, n - 1), 0);
        BENCH.due("nothing", x.of(3, 11) + x.of(3, 12), 0);
    }

    private static void drops() {
        dropped("nothing between", 1, 0, 192, 193);
        dropped("three bytes", 1, 0, 192, 1, 2, 3, 193);
        dropped("192 anew", 0, 0, 192, 1, 2, 3, 192);
        dropped("193 alone", 0, 0, 193, 193, 1, 125, 193);
        dropped("125 and 193", 1, 0, 192, 1, 2, 3, 125, 193);
        dropped("125 and 193, then nothing", 1, 0, 192, 125, 193, 1, 2, 193);
        dropped("125 and 192", 1, 0, 192, 1, 125, 192);
        dropped("125 and 192 begins anew", 2, 0, 192, 125, 192, 125, 192);
        int[] good = Bench.wrap(24, 31);
        dropped("behind 125 and 192", 1, 1, Bench.join(new int[] {192, 5, 125}, good));
        dropped("twice", 0, 2, Bench.join(good, good));
        dropped("193 twice", 0, 1, Bench.join(good, new int[] {193, 193}));
        dropped("192 twice", 0, 1, Bench.join(new int[] {192, 192}, good));
        int[] bent = good.clone();
        bent[2] ^= 4;
        dropped("bent", 1, 0, bent);
        bent = good.clone();
        bent[3] ^= 128;
        dropped("its check is bent", 1, 0, bent);
        bent = good.clone();
        bent[4] ^= 1;
        dropped("the higher byte of its check is bent", 1, 0, bent);
        int[] swapped = good.clone();
        swapped[3] = good[4];
        swapped[4] = good[3];
        dropped("its check the other way", 1, 0, swapped);
        dropped("what need not be escaped may be", 0, 1, 192, 125, 24 ^ 32, 31, good[3], good[4], 193);
        dropped("125 is no byte of its own", 1, 0, 192, 125, 125, 1, 2, 193);
    }

    private static void dropped(String what, int drops, int frames, int... bytes) {
        BeamHouse x = new BeamHouse();
        BENCH.due(what + ": frames", Bench.hear(x, 2, bytes), frames);
        BENCH.due(what + ": heard", x.of(2, 11), frames);
        BENCH.due(what + ": dropped", x.of(2, 12), drops);
    }

    private static void lengths() {
        for (int n = 0; n <= 76; n++) {
            int[] frame = new int[n];
            for (int i = 0; i < n; i++) {
                frame[i] = i * 7 + 60 & 255;
            }
            boolean fits = n >= 2 && n <= 72;
            dropped("a frame of " + n, fits ? 0 : 1, fits ? 1 : 0, Bench.wrap(frame));
        }
    }

    private static void frameTooLong() {
        BeamHouse x = new BeamHouse();
        int[] bytes = new int[75];
        bytes[0] = 192;
        Bench.hear(x, 2, bytes);
        BENCH.due("74 bytes", x.of(2, 12), 0);
        Bench.hear(x, 2, 125);
        BENCH.due("125 is none", x.of(2, 12), 0);
        Bench.hear(x, 2, 9);
        BENCH.due("the 75th", x.of(2, 12), 1);
        Bench.hear(x, 2, 125, 193, 1, 193);
        BENCH.due("then nothing", x.of(2, 12), 1);
        Bench.hearFrame(x, 2, 20, 31);
        BENCH.due("up to the next 192", x.of(2, 11), 1);
    }

    /** Frames with a bent head, kind or length are heard, but nothing happens. */
    private static void noMeaning() {
        int[] find = {255, 63, 9, 0, 0, 0, 1, 0};
        nothing("FIND with bit 0", change(find, 0, 254));
        nothing("FIND of another link", change(find, 0, 253));
        nothing("FIND with 0 slots", change(find, 6, 0));
        nothing("FIND with 7 slots", change(find, 6, 7));
        nothing("FIND with slot 1 of 1", change(find, 7, 1));
        nothing("FIND of its own address", change(find, 2, 1));
        nothing("FIND, longer", Bench.join(find, new int[1]));
        nothing("FIND, shorter", java.util.Arrays.copyOf(find, 7));
        int[] call = {255, 147, 9, 0, 0, 0, 1, 0, 0, 0, 5, 3};
        nothing("CALL with bit 0", change(call, 0, 254));
        nothing("CALL of another link", change(call, 0, 11));
        nothing("CALL of another", change(call, 6, 2));
        nothing("CALL of link 0", change(call, 10, 0));
        nothing("CALL of link 127", change(call, 10, 127));
        nothing("CALL with window 0", change(call, 11, 0));
        nothing("CALL with window 8", change(call, 11, 8));
        nothing("CALL, longer", Bench.join(call, new int[1]));
        nothing("CALL, shorter", java.util.Arrays.copyOf(call, 11));
        nothing("HERE for an idle one", new int[] {254, 191, 9, 0, 0, 0, 1, 0, 0, 0, 0});
        nothing("YES for an idle one", new int[] {10, 115, 9, 0, 0, 0, 1, 0, 0, 0, 3});
        nothing("YES for an idle one", new int[] {10, 115});
        nothing("NO for an idle one", new int[] {10, 31});
        nothing("END with bytes", new int[] {11, 83, 0});
        nothing("END of a second one", new int[] {10, 83});
        nothing("GOON with bytes", new int[] {11, 17, 0});
        nothing("GOON without turn", new int[] {11, 1});
        nothing("GOON of a second one", new int[] {10, 17});
        nothing("AGAIN of a second one", new int[] {10, 25});
        nothing("DATA without turn", new int[] {11, 0, 0});
        nothing("DATA of a second one", new int[] {10, 16, 0});
        nothing("another kind", new int[] {11, 21});
        nothing("another kind", new int[] {11, 29});
        nothing("another kind", new int[] {11, 19});
        nothing("another kind", new int[] {11, 123});
        BeamHouse x = new BeamHouse();
        Bench.hearFrame(x, 0, change(call, 10, 126));
        BENCH.due("CALL of link 126", x.of(0, 2), 126);
        BeamHouse y = new BeamHouse();
        Bench.hearFrame(y, 0, change(call, 11, 7));
        BENCH.due("CALL with window 7", y.of(0, 3), 7);
        refused("END", 11, 83);
        refused("GOON", 11, 17);
        refused("AGAIN", 11, 25);
        refused("GOON with NEXT", 11, 17 | 5 << 5);
        refused("DATA", 11, 16, 0, 1, 2);
        refused("DATA of another number", 11, 26 | 3 << 5, 0);
    }

    private static int[] change(int[] frame, int i, int octet) {
        int[] changed = frame.clone();
        changed[i] = octet;
        return changed;
    }

    private static void nothing(String what, int[] frame) {
        BeamHouse x = new BeamHouse();
        BENCH.due(what + " is heard", Bench.hearFrame(x, 0, frame), 1);
        BENCH.due(what + " leaves it idle", x.of(0, 0), 0);
        BENCH.due(what + " is not answered", Bench.air(x, 0), "");
    }

    private static void refused(String what, int... frame) {
        BeamHouse x = new BeamHouse();
        Bench.hearFrame(x, 0, frame);
        BENCH.due(what + " for an idle one", Bench.air(x, 0), "10 31");
        x.discover(0, 6);
        Bench.hearFrame(x, 0, frame);
        BENCH.due(what + " for an asking one", Bench.air(x, 0), "10 31");
        x.call(1, 9, 1);
        x.take(1);
        Bench.hearFrame(x, 1, frame);
        BENCH.due(what + " for a calling one", Bench.air(x, 1), "10 31");
        BeamHouse y = Bench.linked(7);
        Bench.hearFrame(y, 1, frame);
        Bench.hearFrame(y, 0, frame);
        BENCH.due(what + " for one of another link", Bench.air(y, 0) + Bench.air(y, 1), "");
    }

    private static void talks() {
        BeamHouse x = new BeamHouse();
        BENCH.due("talk(-1, 0)", x.talk(-1, 0, 1), -1);
        BENCH.due("talk(0, 4)", x.talk(0, 4, 99), -1);
        BENCH.due("talk(2, 2)", x.talk(2, 2, 0), -1);
        BENCH.due("talk 0 times", x.talk(0, 1, 0), -2);
        BENCH.due("talk 21 times", x.talk(0, 1, 21), -2);
        BENCH.due("talk 20 times", x.talk(0, 1, 20), 0);
        x.call(0, 2, 1);
        BENCH.due("another one hears it", x.talk(0, 2, 20), 1);
        BENCH.due("it does not answer", x.of(2, 0), 0);
        BENCH.due("it is gone", x.talk(0, 1, 1), 0);
        x.tick(0);
        BENCH.due("back alone", x.talk(1, 0, 1), 1);
        BENCH.due("the other one has heard the call", x.of(1, 0), 4);
        BENCH.due("its yes lies on its air", x.of(0, 0), 2);
        BENCH.due("and comes", x.talk(1, 0, 1), 1);
        BENCH.due("first", x.of(0, 0), 3);
    }

    /** There and back: with b asked first, its own air goes first, then the other's. */
    private static void talkLimits() {
        BeamHouse x = new BeamHouse();
        x.call(0, 2, 1);
        BENCH.due("there and back", x.talk(0, 1, 1), 2);
        x.tick(0);
        BENCH.due("back and there: the turn lies on the second one's air", x.talk(1, 0, 1), 1);
        BENCH.due("so it is", x.of(1, 10), 6);
        BENCH.due("and comes", x.talk(1, 0, 1), 1);
        BENCH.due("the first one has it", x.of(0, 15), 1);
        x.tick(0);
        BENCH.due("twice", x.talk(1, 0, 2), 2);
        x.discover(2, 1);
        x.tick(2);
        x.tick(2);
        BENCH.due("two finds and here", x.talk(2, 3, 1), 3);
    }
}
