import java.util.Arrays;

/** WRAPPING, HEARING, which FRAMES there are, and promises 6 (hear) and 7 (talk). */
public final class HearTest {
    private static final Bench BENCH = new Bench("HearTest");
    private static final int[] GOOD = Bench.wrap(24, 31);

    public static void main(String[] args) {
        wraps();
        escapesTheCheck();
        framesOf2To72();
        notBehind192();
        beginsAnew();
        behind125();
        changedBack();
        the75thByte();
        fewerThan4();
        wrongCheck();
        halves();
        headOfFrames();
        ofLink127();
        kindsOfFrames();
        noneOfThese();
        lengthsOfFrames();
        hearsOfTape();
        hearsOfNone();
        hearsBytesThatAreNot();
        talksThereAndBack();
        talksNTimes();
        talksTillBothHaveNothing();
        talksAllOfTheAir();
        talksOfNone();
        talksOfNoTimes();
        BENCH.ends();
    }

    private static void wraps() {
        BENCH.sentence("each one that is 192, 193 or 125 as 125 and it exclusive or 32; 193.");
        BeamHouse x = new BeamHouse();
        x.device(0, 0x207DC1C0, 7);
        int link = x.call(0, 0xC0C17DC0, 7);
        x.take(0);
        int[] due = Bench.wrap(Bench.call(0x207DC1C0, 0xC0C17DC0, link, 7));
        BENCH.due("wrapped", Bench.text(Bench.onTape(x)), Bench.text(due));
        BENCH.due("seven bytes are escaped", due.length, 1 + 12 + 2 + 7 + 1);
        x.device(1, 0xC0C17DC0, 1);
        BENCH.due("heard", x.hear(1, 0, due.length), 1);
        BENCH.due("it is second", x.of(1, 0), 4);
        BENCH.dueAir("its yes", x, 1, Bench.text(Bench.yes(link, 0xC0C17DC0, 0x207DC1C0, 7)));
    }

    /** Calls of addresses till the lower and the higher byte of the check have been each of the three. */
    private static void escapesTheCheck() {
        BENCH.sentence("192; its bytes and the two of its CHECK, the lower one first");
        boolean[][] seen = new boolean[2][256];
        for (int address = 1; address < 2000; address++) {
            int[] frame = Bench.call(1, address, 1, 1);
            int sum = Bench.check(frame, frame.length);
            boolean isNew = Bench.isSpecial(sum & 255) && !seen[0][sum & 255] || Bench.isSpecial(sum >> 8) && !seen[1][sum >> 8];
            if (isNew) {
                seen[0][sum & 255] = true;
                seen[1][sum >> 8] = true;
                BeamHouse x = new BeamHouse();
                x.call(0, address, 1);
                x.take(0);
                BENCH.due("check " + sum, Bench.text(Bench.onTape(x)), Bench.text(Bench.wrap(frame)));
                BENCH.due("heard", x.hear(1, 0, x.tape(0, 0)), 1);
            }
        }
        for (int octet : new int[] {192, 193, 125}) {
            BENCH.due("each was there", seen[0][octet] && seen[1][octet] ? 1 : 0, 1);
        }
    }

    private static void framesOf2To72() {
        BENCH.sentence("WRAPPING a FRAME (2 to 72 bytes)");
        for (int n = 0; n <= 76; n++) {
            int[] frame = new int[n];
            for (int i = 0; i < n; i++) {
                frame[i] = i * 7 + 60 & 255;
            }
            boolean fits = n >= 2 && n <= 72;
            dropped("a frame of " + n, fits ? 0 : 1, fits ? 1 : 0, Bench.wrap(frame));
        }
        dropped("72 bytes that are all escaped", 0, 1, Bench.wrap(Bench.times(72, 192)));
        dropped("73 bytes that are all escaped", 1, 0, Bench.wrap(Bench.times(73, 192)));
    }

    private static void dropped(String what, int drops, int frames, int... bytes) {
        BeamHouse x = new BeamHouse();
        BENCH.due(what + ": frames", Bench.hear(x, 2, bytes), frames);
        BENCH.due(what + ": heard", x.of(2, 11), frames);
        BENCH.due(what + ": dropped", x.of(2, 12), drops);
    }

    private static void notBehind192() {
        BENCH.sentence("what is not behind 192, up to 193, is nothing;");
        dropped("193 alone", 0, 0, 193, 193, 1, 125, 193);
        dropped("a frame without its 192", 0, 0, Arrays.copyOfRange(GOOD, 1, GOOD.length));
        dropped("behind a frame", 0, 1, Bench.join(GOOD, new int[] {193, 1, 2, 3, 4, 193, 125, 193}));
        dropped("125 before a frame", 0, 1, Bench.join(new int[] {125}, GOOD));
        dropped("125 between frames", 0, 2, Bench.join(GOOD, new int[] {125}, GOOD));
        dropped("80 bytes", 0, 1, Bench.join(new int[80], GOOD));
    }

    private static void beginsAnew() {
        BENCH.sentence("192 begins anew, always (what there was is nothing, and no DROPPED one);");
        dropped("at once", 0, 1, Bench.join(new int[] {192, 192, 192}, GOOD));
        dropped("behind three bytes", 0, 1, Bench.join(new int[] {192, 1, 2, 3}, GOOD));
        dropped("behind 74 bytes", 0, 1, Bench.join(new int[] {192}, new int[74], GOOD));
        dropped("behind a frame without its 193", 0, 1, Bench.join(Arrays.copyOf(GOOD, GOOD.length - 1), GOOD));
        dropped("never closed", 0, 0, 192, 1, 2, 3, 192);
        dropped("closed with the bytes since", 1, 0, Bench.join(new int[] {192, 24, 31, 192}, Arrays.copyOfRange(GOOD, 3, 6)));
    }

    private static void behind125() {
        BENCH.sentence("behind 125 192 and 193 make what there was DROPPED (and 192 begins anew)");
        dropped("193", 1, 0, 192, 1, 2, 3, 125, 193);
        dropped("193, then nothing is", 1, 0, 192, 125, 193, 1, 2, 193);
        dropped("193 behind a right check", 1, 0, Bench.join(Arrays.copyOf(GOOD, 5), new int[] {125, 193}));
        dropped("193, then a frame", 1, 1, Bench.join(new int[] {192, 125, 193}, GOOD));
        dropped("192", 1, 0, 192, 1, 125, 192);
        dropped("192 as the first byte", 1, 0, 192, 125, 192);
        dropped("192 twice", 2, 0, 192, 125, 192, 125, 192);
        dropped("192 begins anew", 1, 1, Bench.join(new int[] {192, 5, 125}, GOOD));
        dropped("the new one is not behind 125", 1, 1, Bench.join(new int[] {192, 125, 192}, GOOD));
    }

    private static void changedBack() {
        BENCH.sentence("another byte is changed back;");
        dropped("what need not be escaped may be", 0, 1, 192, 125, 24 ^ 32, 31, GOOD[3], GOOD[4], 193);
        dropped("125 behind 125 is 93", 0, 1, escapedFirst(93));
        dropped("125 behind 125 is no 125", 1, 0, 192, 125, 125, 1, 2, 193);
        dropped("0 behind 125 is 32", 0, 1, escapedFirst(32));
        dropped("255 behind 125 is 223", 0, 1, escapedFirst(223));
    }

    private static int[] escapedFirst(int octet) {
        int[] checked = Bench.checked(octet, 31);
        return new int[] {192, 125, octet ^ 32, checked[1], checked[2], checked[3], 193};
    }

    private static void the75thByte() {
        BENCH.sentence("with the 75th byte all are DROPPED, and nothing is up to the next 192;");
        BeamHouse x = new BeamHouse();
        Bench.hear(x, 2, Bench.change(new int[75], 0, 192));
        BENCH.due("74 bytes", x.of(2, 12), 0);
        Bench.hear(x, 2, 125);
        BENCH.due("125 is none", x.of(2, 12), 0);
        Bench.hear(x, 2, 9);
        BENCH.due("the 75th", x.of(2, 12), 1);
        Bench.hear(x, 2, 125, 193, 1, 2, 3, 4, 193);
        Bench.hear(x, 2, new int[80]);
        BENCH.due("then nothing", x.of(2, 12) * 10 + x.of(2, 11), 10);
        Bench.hear(x, 2, GOOD);
        BENCH.due("up to the next 192", x.of(2, 12) * 10 + x.of(2, 11), 11);
        dropped("192 behind the 75th is not behind 125", 1, 1, Bench.join(new int[] {192}, new int[75], new int[] {125}, GOOD));
        dropped("125 and 193 behind 74", 1, 0, Bench.join(new int[] {192}, new int[74], new int[] {125, 193}));
    }

    private static void fewerThan4() {
        BENCH.sentence("at 193: with fewer than 4 bytes");
        dropped("nothing between", 1, 0, 192, 193);
        dropped("nothing between, twice", 2, 0, 192, 193, 192, 193);
        dropped("a byte", 1, 0, 192, 1, 193);
        dropped("the right check of no byte", 1, 0, 192, 0, 0, 193);
        dropped("the right check of a byte", 1, 0, Bench.wrap(24));
        dropped("the right check of two bytes", 0, 1, Bench.wrap(24, 31));
        dropped("three bytes, one of them escaped", 1, 0, 192, 1, 125, 2, 3, 193);
    }

    private static void wrongCheck() {
        BENCH.sentence("or a CHECK that is not right, they are DROPPED; else the first ones are a FRAME.");
        for (int i = 1; i <= 4; i++) {
            for (int bit = 0; bit < 8; bit++) {
                int[] bent = Bench.change(GOOD, i, GOOD[i] ^ 1 << bit);
                if (!Bench.isSpecial(bent[i])) {
                    dropped("byte " + i + " is bent in bit " + bit, 1, 0, bent);
                }
            }
        }
        dropped("the check the other way", 1, 0, 192, 24, 31, GOOD[4], GOOD[3], 193);
        dropped("a byte too many", 1, 0, Bench.join(Arrays.copyOf(GOOD, 5), new int[] {0, 193}));
        dropped("a byte lost", 1, 0, 192, 24, GOOD[3], GOOD[4], 31, 193);
        dropped("a byte doubled", 1, 0, 192, 24, 24, 31, GOOD[3], GOOD[4], 193);
        dropped("twice", 0, 2, Bench.join(GOOD, GOOD));
        dropped("a bent one, then one that is right", 1, 1, Bench.join(Bench.change(GOOD, 2, 30), GOOD));
    }

    /** The call has escaped bytes; each place to cut it lies before, within and behind one of them, too. */
    private static void halves() {
        BENCH.sentence("(What is heard by halves goes on with the next bytes.)");
        int[] call = Bench.wrap(Bench.call(0xC0, 2, 5, 3));
        for (int cut = 0; cut <= call.length; cut++) {
            BeamHouse x = new BeamHouse();
            Bench.lay(x, call);
            int frames = x.hear(1, 0, cut);
            BENCH.due("the first half", frames, cut == call.length ? 1 : 0);
            x.hear(2, 0, call.length);
            BENCH.due("the whole", frames + x.hear(1, cut, call.length - cut), 1);
            BENCH.due("second", x.of(1, 0), 4);
            BENCH.due("heard, dropped", x.of(1, 11) * 10 + x.of(1, 12), 10);
        }
        for (int n = 1; n <= 2; n++) {
            BeamHouse x = withRestOfNo(n);
            Bench.hear(x, 2, Arrays.copyOf(GOOD, 6 - n));
            BENCH.due("what is talked goes on, too, by " + n, x.talk(1, 2, 1), 1);
        }
        BeamHouse x = new BeamHouse();
        Bench.hear(x, 1, Arrays.copyOf(call, 5));
        x.call(1, 9, 1);
        Bench.ticks(x, 1, 4);
        BENCH.due("another state does not matter", Bench.hear(x, 1, Arrays.copyOfRange(call, 5, call.length)), 1);
    }

    /** On device 1's air lie the last n bytes (up to 6) of a NO of link 12. */
    private static BeamHouse withRestOfNo(int n) {
        int sevens = 1000 + n - 6 * 166;
        BeamHouse x = new BeamHouse();
        Bench.hear(x, 1, Bench.times(sevens, Bench.wrap(21, 17)));
        Bench.hear(x, 1, Bench.times(166 - sevens, Bench.wrap(25, 17)));
        x.take(1);
        BENCH.due("on its air", x.of(1, 10), n);
        return x;
    }

    private static void headOfFrames() {
        BENCH.sentence("A FRAME: byte 0 is a number of a link, times 2, and 1 from the FIRST one (ASKING, CALLING) of both;");
        for (int link : new int[] {1, 2, 63, 64, 125, 126}) {
            BeamHouse x = new BeamHouse();
            Bench.hearFrame(x, 0, Bench.call(9, 1, link, 1));
            BENCH.dueAir("YES of a second one", x, 0, Bench.text(Bench.yes(link, 1, 9, 1)));
            Bench.hearFrame(x, 0, link * 2 + 1, 17);
            BENCH.dueAir("GOON of a second one", x, 0, link * 2 + " 17");
        }
        for (int seed = 0; seed < 20; seed++) {
            BeamHouse x = new BeamHouse();
            x.device(0, 1, seed);
            int link = x.call(0, 2, 1);
            x.talk(0, 1, 1);
            x.tick(0);
            BENCH.dueAir("GOON of a first one", x, 0, link * 2 + 1 + " 17");
        }
    }

    private static void ofLink127() {
        BENCH.sentence("byte 1 is its kind: 63 FIND, 191 HERE (both of link 127), 147 CALL (of 127), 115 YES, 83 END, 31 NO;");
        for (int head = 0; head < 256; head++) {
            if (head != 255) {
                nothing("CALL of head " + head, Bench.change(Bench.call(2, 1, 1, 7), 0, head));
                nothing("FIND of head " + head, Bench.change(Bench.find(9, 1, 0), 0, head));
            }
            if (head != 254) {
                BENCH.dueNothing("HERE of head " + head, Bench.inState(1), 0, Bench.change(Bench.here(5, 1, 0), 0, head));
            }
        }
    }

    private static void kindsOfFrames() {
        BENCH.sentence("or bit 0 is 0: DATA: bits 1 to 3 its number, bit 4 TURN, bits 5 to 7 NEXT; or the lowest four are 1: GOON, 9: AGAIN, bit 4 TURN, bits 5 to 7 NEXT.");
        for (int kind = 0; kind < 256; kind++) {
            BeamHouse x = Bench.inState(4);
            int low = kind & 15;
            boolean counts = kind >> 5 == 0 && ((kind & 1) == 0 || low == 1 || low == 9);
            Bench.hearFrame(x, 0, (kind & 1) == 0 ? new int[] {3, kind, 0} : new int[] {3, kind});
            boolean isTaken = counts && low == 0;
            BENCH.due("taken, of kind " + kind, x.of(0, 5), isTaken ? 1 : 0);
            boolean isMissed = (kind & 1) == 0 && low != 0;
            String answer = kind == 83 ? "2 115" : counts && (kind & 16) != 0 ? "2 " + (isTaken ? 49 : isMissed ? 25 : 17) : "";
            BENCH.dueAir("answered, of kind " + kind, x, 0, answer);
        }
    }

    private static boolean isKind(int kind) {
        int low = kind & 15;
        return Arrays.asList(63, 191, 147, 115, 83, 31).contains(kind) || (kind & 1) == 0 || low == 1 || low == 9;
    }

    private static void noneOfThese() {
        BENCH.sentence("All that is none of these, or as told below has no meaning, is nothing.");
        int kinds = 0;
        for (int kind = 0; kind < 256; kind++) {
            kinds += isKind(kind) ? 1 : 0;
            for (int state = 0; state <= 4 && !isKind(kind); state++) {
                BENCH.dueNothing("kind " + kind + " in state " + state, Bench.inState(state), 0, state == 4 ? 3 : 2, kind);
            }
        }
        BENCH.due("kinds", kinds, 6 + 128 + 32);
        nothing("HERE for an idle one", Bench.here(9, 1, 0));
        nothing("YES for an idle one", Bench.yes(1, 2, 1, 3));
        nothing("YES without bytes for an idle one", 2, 115);
        nothing("NO for an idle one", 2, 31);
        nothing("NO from a first one", 3, 31);
    }

    private static void nothing(String what, int... frame) {
        BENCH.dueNothing(what, new BeamHouse(), 0, frame);
    }

    /** Of the forms that the document tells, one with a byte less or more is none. */
    private static void lengthsOfFrames() {
        BENCH.sentence("or as told below has no meaning, is nothing.");
        int[][] frames = {Bench.find(9, 1, 0), Bench.find(9, 1, 255), Bench.here(9, 1, 0), Bench.call(2, 1, 1, 7),
            Bench.yes(1, 2, 1, 3)};
        int[] states = {0, 0, 1, 0, 2};
        for (int i = 0; i < frames.length; i++) {
            for (int n = 2; n <= 16; n++) {
                if (n != frames[i].length) {
                    BENCH.dueNothing("form " + i + " with " + n, Bench.inState(states[i]), 0, Arrays.copyOf(frames[i], n));
                }
            }
        }
    }

    private static void hearsOfTape() {
        BENCH.sentence("A DEVICE HEARS bytes i to i + n - 1 of THE TAPE, which stays: how many FRAMES.");
        BeamHouse x = new BeamHouse();
        Bench.lay(x, Bench.join(GOOD, GOOD, GOOD));
        BENCH.due("all", x.hear(0, 0, 18), 3);
        BENCH.due("the second one", x.hear(0, 6, 6), 1);
        BENCH.due("but for the first and the last byte", x.hear(1, 1, 16), 1);
        BENCH.due("but for the last byte", x.hear(2, 0, 17), 2);
        BENCH.due("no bytes", x.hear(0, 0, 0) + x.hear(0, 20, 0), 0);
        BENCH.due("the tape stays", Bench.text(Bench.onTape(x)), Bench.text(Bench.join(GOOD, GOOD, GOOD, new int[2])));
        BENCH.due("heard in all", x.of(0, 11), 4);
    }

    private static void hearsOfNone() {
        BENCH.sentence("how many FRAMES. -1 no such DEVICE;");
        BeamHouse x = new BeamHouse();
        BENCH.due("hear(-1)", x.hear(-1, 0, 0), -1);
        BENCH.due("hear(4), and bytes that there are not", x.hear(4, 99, 99), -1);
    }

    private static void hearsBytesThatAreNot() {
        BENCH.sentence("-2 bytes that there are not.");
        BeamHouse x = new BeamHouse();
        BENCH.due("one of an empty tape", x.hear(0, 0, 1), -2);
        BENCH.due("none of an empty tape", x.hear(0, 0, 0), 0);
        Bench.lay(x, Bench.join(new int[14], GOOD));
        BENCH.due("one too many", x.hear(0, 0, 21), -2);
        BENCH.due("one on", x.hear(0, 1, 20), -2);
        BENCH.due("behind the last", x.hear(0, 20, 1), -2);
        BENCH.due("before the first", x.hear(0, -1, 5), -2);
        BENCH.due("fewer than none", x.hear(0, 5, -1), -2);
        BENCH.due("round", x.hear(0, Integer.MAX_VALUE, Integer.MAX_VALUE), -2);
        BENCH.due("round", x.hear(0, 1, Integer.MAX_VALUE), -2);
        BENCH.due("round", x.hear(0, Integer.MIN_VALUE, Integer.MIN_VALUE), -2);
        BENCH.due("nothing of them is heard", x.of(0, 11) + x.of(0, 12), 0);
        BENCH.due("all that there are", x.hear(0, 0, 20), 1);
    }

    private static void talksThereAndBack() {
        BENCH.sentence("All that is on a DEVICE's AIR goes to another one, which HEARS it, and back, and so on");
        BeamHouse x = new BeamHouse();
        x.call(0, 2, 1);
        BENCH.due("another one hears it", x.talk(0, 2, 20), 1);
        BENCH.due("it does not answer", x.of(2, 0), 0);
        BENCH.due("it is gone", x.talk(0, 1, 1), 0);
        x.tick(0);
        BENCH.due("there and back", x.talk(0, 1, 1), 2);
        BENCH.due("both are linked", x.of(0, 0) * 10 + x.of(1, 0), 34);
        x.discover(2, 1);
        Bench.ticks(x, 2, 2);
        x.feed(1, 2, 3, 4, 5);
        BENCH.due("two finds and here", x.talk(2, 3, 1), 3);
        BENCH.due("the tape is not for that", x.tape(0, 0), 20);
    }

    /** The first one speaks second here: what answers it goes with the second time only. */
    private static void talksNTimes() {
        BENCH.sentence("up to n times there and back");
        BeamHouse x = Bench.linked(1);
        x.tick(0);
        BENCH.due("once", x.talk(1, 0, 1), 1);
        BENCH.due("the answer lies on its air", x.of(1, 10), 6);
        BENCH.due("once more", x.talk(1, 0, 1), 1);
        BENCH.due("the first one has the turn", x.of(0, 15), 1);
        x.tick(0);
        BENCH.due("twice", x.talk(1, 0, 2), 2);
    }

    private static void talksTillBothHaveNothing() {
        BENCH.sentence("or till both have nothing: how many FRAMES were heard.");
        BeamHouse x = new BeamHouse();
        BENCH.due("nothing at all", x.talk(0, 1, 20), 0);
        x.call(1, 1, 1);
        BENCH.due("the other one has something", x.talk(0, 1, 20), 2);
        BENCH.due("linked", x.of(1, 0) * 10 + x.of(0, 0), 34);
        BENCH.due("nothing more", x.of(0, 10) + x.of(1, 10) + x.talk(1, 0, 20), 0);
        BENCH.due("bytes that are no frame", withRestOfNo(2).talk(1, 2, 20), 0);
    }

    private static void talksAllOfTheAir() {
        BENCH.sentence("All that is on a DEVICE's AIR goes to another one");
        BeamHouse x = new BeamHouse();
        Bench.lay(x, Bench.times(166, Bench.wrap(25, 17)));
        for (int k = 0; k < 4; k++) {
            x.hear(0, 0, 996);
        }
        BENCH.due("nearly 4000 bytes", x.of(0, 10), 3984);
        BENCH.due("all are heard", x.talk(0, 1, 1), 664);
        BENCH.due("none is left", x.of(0, 10), 0);
    }

    private static void talksOfNone() {
        BENCH.sentence("-1 no such DEVICES, or they are one;");
        BeamHouse x = new BeamHouse();
        x.call(0, 2, 1);
        BENCH.due("talk(-1, 0)", x.talk(-1, 0, 1), -1);
        BENCH.due("talk(0, 4)", x.talk(0, 4, 99), -1);
        BENCH.due("talk(4, 4)", x.talk(4, 4, 1), -1);
        for (int d = 0; d < 4; d++) {
            BENCH.due("they are one", x.talk(d, d, 1), -1);
            BENCH.due("they are one, and n", x.talk(d, d, 0), -1);
        }
        BENCH.due("nothing went", x.of(0, 10), 16);
    }

    private static void talksOfNoTimes() {
        BENCH.sentence("-2 n is not 1 .. 20.");
        BeamHouse x = new BeamHouse();
        x.call(0, 2, 1);
        for (int n : new int[] {0, -1, 21, Integer.MIN_VALUE, Integer.MAX_VALUE}) {
            BENCH.due(n + " times", x.talk(0, 1, n), -2);
        }
        BENCH.due("nothing went", x.of(0, 10), 16);
        BENCH.due("20 times", x.talk(0, 1, 20), 2);
        x.tick(0);
        BENCH.due("1 time", x.talk(0, 1, 1), 2);
    }
}
