/** CALL and YES, the ticks (8) of a CALLING one, and promise 11 (call). */
public final class CallTest {
    private static final Bench BENCH = new Bench("CallTest");
    private static final String YES = "10 115 2 0 0 0 9 0 0 0 3";

    public static void main(String[] args) {
        calls();
        callsNot();
        callsAgain();
        linksOfCall();
        windowsOfCall();
        calledIdle();
        calledByItsAddress();
        yesAgain();
        notAgainBehindData();
        notAgainForAnother();
        anyOther();
        yesForCalling();
        yesOfAnotherLink();
        yesWindows();
        yesForOthers();
        BENCH.ends();
    }

    private static void calls() {
        BENCH.sentence("An IDLE DEVICE calls an ADDRESS: it DRAWS a link (1 more than a DRAW below 126), sends CALL, is CALLING: the link.");
        BeamHouse x = new BeamHouse();
        x.device(0, 300, 1);
        BENCH.due("the link", x.call(0, -2, 4), 1 + 16838 % 126);
        BENCH.due("calling", x.of(0, 0), 2);
        BENCH.due("its link is told", x.of(0, 2), 81);
        BENCH.dueAir("a call", x, 0, "255 147 44 1 0 0 254 255 255 255 81 4");
        for (int window = 1; window <= 7; window++) {
            BeamHouse y = new BeamHouse();
            BENCH.due("the link", y.call(0, 1, window), 1);
            BENCH.dueAir("even its own address", y, 0, Bench.text(Bench.call(1, 1, 1, window)));
        }
    }

    private static void callsNot() {
        BENCH.sentence("-1; -2 not IDLE; -3 a WINDOW not 1 .. 7.");
        BeamHouse x = new BeamHouse();
        BENCH.due("call(-1), and a window", x.call(-1, 1, 0), -1);
        BENCH.due("call(4)", x.call(4, 1, 1), -1);
        for (int window : new int[] {0, 8, -1, 256 + 3, Integer.MIN_VALUE, Integer.MAX_VALUE}) {
            BENCH.due("window " + window, x.call(0, 1, window), -3);
        }
        BENCH.due("still idle, nothing is sent", x.of(0, 0) + x.of(0, 10), 0);
        BENCH.due("nothing is drawn", x.call(0, 1, 7), 1);
        for (int state = 1; state <= 4; state++) {
            BeamHouse y = Bench.inState(state);
            String before = Bench.text(Bench.facts(y, 0));
            BENCH.due("in state " + state, y.call(0, 9, 1), -2);
            BENCH.due("in state " + state + ", and a window", y.call(0, 9, 0), -2);
            BENCH.due("all is as it was", Bench.text(Bench.facts(y, 0)), before);
            int draws = 1 + Bench.leaveState(y, state);
            BENCH.due("nothing was drawn", y.call(0, 2, 1), 1 + Bench.draw(0, draws, 126));
        }
    }

    private static void callsAgain() {
        BENCH.sentence("CALLING: CALL again; with the fourth tick it is IDLE.");
        BeamHouse x = new BeamHouse();
        for (int k = 0; k < 2; k++) {
            int link = x.call(0, -2, 4);
            x.take(0);
            for (int tick = 1; tick <= 3; tick++) {
                BENCH.due("tick " + tick, x.tick(0), 2);
                BENCH.dueAir("again", x, 0, Bench.text(Bench.call(1, -2, link, 4)));
            }
            BENCH.due("the fourth tick", x.tick(0), 0);
            BENCH.dueAir("nothing", x, 0, "");
            BENCH.due("no link", x.of(0, 2), 0);
        }
        x.call(0, 2, 1);
        Bench.ticks(x, 0, 3);
        x.talk(0, 1, 1);
        BENCH.due("YES behind the third tick", x.of(0, 0), 3);
        x.tick(0);
        BENCH.due("the fourth tick is a first one's", x.of(0, 0), 3);
    }

    private static void linksOfCall() {
        BENCH.sentence("CALL: ADDRESS of who calls, of whom, a link (1 to 126)");
        for (int link = 0; link < 256; link++) {
            boolean fits = link >= 1 && link <= 126;
            BeamHouse x = new BeamHouse();
            Bench.hearFrame(x, 1, Bench.call(9, 2, link, 3));
            BENCH.due("state of link " + link, x.of(1, 0), fits ? 4 : 0);
            BENCH.due("link " + link, x.of(1, 2), fits ? link : 0);
            BENCH.dueAir("yes of " + link, x, 1, fits ? Bench.text(Bench.yes(link, 2, 9, 3)) : "");
        }
    }

    private static void windowsOfCall() {
        BENCH.sentence("a WINDOW (1 to 7).");
        for (int window = 0; window < 256; window++) {
            boolean fits = window >= 1 && window <= 7;
            BeamHouse x = new BeamHouse();
            Bench.hearFrame(x, 1, Bench.call(9, 2, 5, window));
            BENCH.due("state of window " + window, x.of(1, 0), fits ? 4 : 0);
            BENCH.due("window " + window, x.of(1, 3), fits ? window : 0);
            BENCH.dueAir("yes of " + window, x, 1, fits ? Bench.text(Bench.yes(5, 2, 9, window)) : "");
        }
    }

    private static void calledIdle() {
        BENCH.sentence("it is SECOND of that link, with that WINDOW, and sends YES: its ADDRESS, that of who calls, that WINDOW.");
        BeamHouse x = new BeamHouse();
        x.device(1, 0x81828384, 0);
        Bench.hearFrame(x, 1, Bench.call(0x91929394, 0x81828384, 126, 7));
        BENCH.dueAir("yes", x, 1, "252 115 132 131 130 129 148 147 146 145 7");
        BENCH.due("all of it", Bench.text(Bench.facts(x, 1)), "4 " + 0x81828384 + " 126 7 0 0 0 0 4 0 0 1 0 0 0 0 0");
        BeamHouse y = new BeamHouse();
        Bench.hearFrame(y, 1, Bench.call(2, 2, 5, 3));
        BENCH.dueAir("called by its own address", y, 1, "10 115 2 0 0 0 2 0 0 0 3");
    }

    private static void calledByItsAddress() {
        BENCH.sentence("An IDLE DEVICE whose ADDRESS the second one is");
        BENCH.dueNothing("another one's", new BeamHouse(), 1, Bench.call(9, 1, 5, 3));
        BENCH.dueNothing("the caller's", new BeamHouse(), 1, Bench.call(2, 9, 5, 3));
        for (int bit = 0; bit < 32; bit++) {
            BeamHouse x = new BeamHouse();
            Bench.hearFrame(x, 1, Bench.call(9, 2 ^ 1 << bit, 5, 3));
            BENCH.due("unlike in bit " + bit, x.of(1, 0), 0);
        }
    }

    private static BeamHouse second() {
        BeamHouse x = new BeamHouse();
        Bench.hearFrame(x, 1, Bench.call(9, 2, 5, 3));
        x.take(1);
        return x;
    }

    private static void yesAgain() {
        BENCH.sentence("If it is SECOND of just that link and caller, and no DATA was taken: YES again.");
        BeamHouse x = second();
        for (int k = 0; k < 3; k++) {
            Bench.hearFrame(x, 1, Bench.call(9, 2, 5, 3));
            BENCH.dueAir("yes again", x, 1, YES);
        }
        Bench.hearFrame(x, 1, 11, 17);
        x.take(1);
        Bench.hearFrame(x, 1, 11, 2, 0);
        Bench.hearFrame(x, 1, 11, 0);
        Bench.hearFrame(x, 1, Bench.call(9, 2, 5, 3));
        BENCH.dueAir("GOON was heard, DATA was missed: yes again", x, 1, YES);
        Bench.hearFrame(x, 1, Bench.call(9, 2, 5, 7));
        BENCH.dueAir("with another window: the same yes", x, 1, YES);
        BENCH.due("its window stays", x.of(1, 3), 3);
        x.store(1, 97, 1, 0, 0, 0);
        x.put(1, 97, 1);
        Bench.hearFrame(x, 1, Bench.call(9, 2, 5, 3));
        BENCH.dueAir("a part waits: yes again", x, 1, YES);
        BENCH.due("its part waits still", x.of(1, 6), 1);
    }

    private static void notAgainBehindData() {
        BENCH.sentence("and no DATA was taken");
        BeamHouse x = second();
        for (int i = 0; i < 9; i++) {
            Bench.hearFrame(x, 1, 11, (i & 7) << 1, 0);
            BENCH.dueNothing("behind DATA " + i, x, 1, Bench.call(9, 2, 5, 3));
        }
        BENCH.due("also where its number is round", x.of(1, 5), 1);
        BeamHouse y = second();
        Bench.hearFrame(y, 1, 11, 0, 0);
        Bench.hearFrame(y, 1, 11, 83);
        y.take(1);
        Bench.hearFrame(y, 1, Bench.call(9, 2, 5, 3));
        BENCH.dueAir("a new link", y, 1, YES);
        Bench.hearFrame(y, 1, Bench.call(9, 2, 5, 3));
        BENCH.dueAir("no DATA was taken in this one", y, 1, YES);
    }

    private static void notAgainForAnother() {
        BENCH.sentence("If it is SECOND of just that link and caller");
        BENCH.dueNothing("another caller", second(), 1, Bench.call(8, 2, 5, 3));
        BENCH.dueNothing("a caller unlike in the highest bit", second(), 1, Bench.call(9 | 1 << 31, 2, 5, 3));
        BENCH.dueNothing("another link", second(), 1, Bench.call(9, 2, 6, 3));
        BENCH.dueNothing("a window that may not be", second(), 1, Bench.call(9, 2, 5, 8));
        BENCH.dueNothing("another called", second(), 1, Bench.call(9, 3, 5, 3));
    }

    private static void anyOther() {
        BENCH.sentence("Any other DEVICE whose ADDRESS it is: nothing.");
        for (int state = 1; state <= 3; state++) {
            BENCH.dueNothing("in state " + state, Bench.inState(state), 0, Bench.call(2, 1, 1, 7));
            BENCH.dueNothing("of another in state " + state, Bench.inState(state), 0, Bench.call(9, 1, 5, 7));
        }
    }

    /** Device 0 (address 300) calls address 5 with window 6: its link is 81. */
    private static BeamHouse calling() {
        BeamHouse x = new BeamHouse();
        x.device(0, 300, 1);
        x.call(0, 5, 6);
        x.take(0);
        return x;
    }

    private static void yesForCalling() {
        BENCH.sentence("YES for a CALLING one (both ADDRESSES, the link right): it is FIRST, with that WINDOW, and has the TURN.");
        BeamHouse x = calling();
        Bench.hearFrame(x, 0, 162, 115, 5, 0, 0, 0, 44, 1, 0, 0, 3);
        BENCH.due("all of it", Bench.text(Bench.facts(x, 0)), "3 300 81 3 0 0 0 0 4 0 0 1 0 0 0 1 0");
        BENCH.dueNothing("another yes", x, 0, Bench.yes(81, 5, 300, 5));
        BENCH.dueNothing("another one's", calling(), 0, Bench.yes(81, 6, 300, 3));
        BENCH.dueNothing("another one's in the highest bit", calling(), 0, Bench.yes(81, 5 | 1 << 31, 300, 3));
        BENCH.dueNothing("for another one", calling(), 0, Bench.yes(81, 5, 301, 3));
        BENCH.dueNothing("for another one in the highest bit", calling(), 0, Bench.yes(81, 5, 300 | 1 << 31, 3));
        BENCH.dueNothing("without bytes", calling(), 0, 162, 115);
    }

    private static void yesOfAnotherLink() {
        BENCH.sentence("(both ADDRESSES, the link right)");
        for (int head = 0; head < 256; head++) {
            BeamHouse x = calling();
            Bench.hearFrame(x, 0, Bench.change(Bench.yes(81, 5, 300, 3), 0, head));
            BENCH.due("head " + head, x.of(0, 0), head == 162 ? 3 : 2);
        }
    }

    private static void yesWindows() {
        BENCH.sentence("it is FIRST, with that WINDOW");
        for (int window = 0; window < 256; window++) {
            boolean fits = window >= 1 && window <= 7;
            BeamHouse x = calling();
            Bench.hearFrame(x, 0, Bench.yes(81, 5, 300, window));
            BENCH.due("window " + window, x.of(0, 3) * 10 + x.of(0, 0), fits ? window * 10 + 3 : 2);
        }
    }

    private static void yesForOthers() {
        BENCH.sentence("YES for a CALLING one");
        for (int state : new int[] {0, 1, 3, 4}) {
            BENCH.dueNothing("in state " + state, Bench.inState(state), 0, Bench.yes(1, 2, 1, 3));
        }
    }
}
