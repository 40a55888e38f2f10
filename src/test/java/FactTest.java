/** Promise 18 (of): what it tells of a device in each state. */
public final class FactTest {
    private static final Bench BENCH = new Bench("FactTest");

    public static void main(String[] args) {
        states();
        noSuchFact();
        linkOnlyOfSome();
        windowOnlyOfLinked();
        rowsPartlySent();
        creditOnlyOfLinked();
        owed();
        airAndFrames();
        objects();
        whatItAskedFor();
        turn();
        list();
        allOnTheWay();
        BENCH.ends();
    }

    private static void states() {
        BENCH.sentence("0 IDLE, 1 ASKING, 2 CALLING, 3 FIRST, 4 SECOND.");
        BENCH.due("a new one", new BeamHouse().of(0, 0), 0);
        BeamHouse x = new BeamHouse();
        x.discover(2, 1);
        BENCH.due("one that asks", x.of(2, 0), 1);
        x.call(0, 2, 1);
        BENCH.due("one that calls", x.of(0, 0), 2);
        x.talk(0, 1, 1);
        BENCH.due("one that has called", x.of(0, 0), 3);
        BENCH.due("one that was called", x.of(1, 0), 4);
        BENCH.sentence("Of a DEVICE: 0 STATE, 1 ADDRESS");
        x.device(3, -5, 0);
        BENCH.due("another one stays", Bench.text(x.of(3, 0), x.of(3, 1), x.of(2, 1)), "0 -5 3");
    }

    private static void noSuchFact() {
        BENCH.sentence("-9: no such DEVICE, what.");
        BeamHouse x = Bench.linked(3);
        for (int d : new int[] {-1, 4, Integer.MIN_VALUE, Integer.MAX_VALUE}) {
            BENCH.due("of(" + d + ", 0)", x.of(d, 0), -9);
            BENCH.due("of(" + d + ", 17)", x.of(d, 17), -9);
        }
        for (int what : new int[] {-1, 17, 18, Integer.MIN_VALUE, Integer.MAX_VALUE}) {
            BENCH.due("of(0, " + what + ")", x.of(0, what), -9);
        }
        for (int what = 0; what <= 16; what++) {
            BENCH.due("of(0, " + what + ") is there", x.of(0, what) == -9 ? 1 : 0, 0);
        }
    }

    /** What is due in states 0 to 4; 0 is due when the device has become idle. */
    private static void inEachState(int what, int... due) {
        for (int state = 0; state <= 4; state++) {
            BeamHouse x = Bench.inState(state);
            BENCH.due("state", x.of(0, 0), state);
            BENCH.due(what + " in state " + state, x.of(0, what), due[state]);
            Bench.leaveState(x, state);
            BENCH.due(what + ", idle again", x.of(0, what), 0);
        }
    }

    private static void linkOnlyOfSome() {
        BENCH.sentence("2 link (0 but of CALLING, FIRST, SECOND)");
        inEachState(2, 0, 0, 1, 1, 1);
    }

    private static void windowOnlyOfLinked() {
        BENCH.sentence("3 WINDOW (of FIRST, SECOND; 0)");
        inEachState(3, 0, 0, 0, 7, 7);
    }

    private static void rowsPartlySent() {
        BENCH.sentence("7 rows that wait (a row that is partly sent, too)");
        Peer peer = new Peer(BENCH, 7);
        peer.x.store(1, 97, 1, 40, 0, 0);
        for (int i = 0; i < 3; i++) {
            peer.data(false, 0, 131, 0, 3);
            BENCH.due("none waits", peer.x.of(1, 7), 0);
        }
        peer.x.put(1, 97, 1);
        BENCH.due("one of its two parts could go", peer.x.of(1, 6) * 10 + peer.x.of(1, 7), 41);
        peer.data(false, 0, 131, 0, 3);
        BENCH.due("another one waits behind it", peer.x.of(1, 7), 2);
        peer.data(false, 1);
        BENCH.due("all of it is parts", peer.x.of(1, 6) * 10 + peer.x.of(1, 7), 51);
    }

    private static void creditOnlyOfLinked() {
        BENCH.sentence("8 CREDIT it has (of FIRST, SECOND; 0)");
        inEachState(8, 0, 0, 0, 4, 4);
    }

    private static void owed() {
        BENCH.sentence("9 OWED, 10 bytes on its AIR");
        Peer peer = new Peer(BENCH, 7);
        peer.data(false, 128, 1);
        BENCH.due("owed", peer.x.of(1, 9), 1);
        peer.frame(83);
        BENCH.due("an idle one owes nothing; YES lies on its air", peer.x.of(1, 9) * 10 + peer.x.of(1, 10), 6);
    }

    private static void airAndFrames() {
        BENCH.sentence("11 FRAMES heard, 12 DROPPED");
        BeamHouse x = new BeamHouse();
        int[] good = Bench.wrap(24, 31);
        Bench.hear(x, 0, Bench.join(good, new int[] {192, 193}, good, new int[] {192, 1, 193}, good));
        BENCH.due("heard", x.of(0, 11), 3);
        BENCH.due("dropped", x.of(0, 12), 2);
        BENCH.due("of another one", x.of(1, 11) + x.of(1, 12), 0);
        x.call(0, 2, 1);
        x.talk(0, 1, 1);
        BENCH.due("by talk, too", x.of(0, 11) * 10 + x.of(1, 11), 41);
    }

    private static void objects() {
        BENCH.sentence("13 OBJECTS");
        BeamHouse x = new BeamHouse();
        for (int i = 0; i <= 7; i++) {
            BENCH.due("objects", x.of(3, 13), Math.min(6, i));
            x.store(3, 97 + i, 1, 1, 1, 1);
        }
        x.store(3, 97, 1, 2, 1, 1);
        BENCH.due("in place of one", x.of(3, 13), 6);
    }

    private static void whatItAskedFor() {
        BENCH.sentence("14 what it asked for: 0 nothing yet (or it became IDLE on its way), 1 on its way, 160 DONE, else the code;");
        for (int code : new int[] {160, 144, 192, 196, 205}) {
            Peer peer = new Peer(BENCH, 7);
            peer.x.store(1, 97, 1, 1, 1, 1);
            BENCH.due("nothing yet", peer.x.of(1, 14), 0);
            peer.x.put(1, 97, 1);
            BENCH.due("on its way", peer.x.of(1, 14), 1);
            peer.data(false, 1, code, 0, 3);
            BENCH.due("the code", peer.x.of(1, 14), code);
            peer.x.get(1, 97, 1);
            BENCH.due("on its way again", peer.x.of(1, 14), 1);
            peer.frame(83);
            BENCH.due("it became idle", peer.x.of(1, 14), 0);
        }
    }

    private static void turn() {
        BENCH.sentence("15 1 if it has the TURN");
        inEachState(15, 0, 0, 0, 1, 0);
        for (int state = 0; state <= 4; state++) {
            BeamHouse x = Bench.inState(state);
            x.tick(0);
            BENCH.due("behind a tick", x.of(0, 15), 0);
        }
    }

    private static void list() {
        BENCH.sentence("16 how many are in its LIST.");
        BeamHouse x = Bench.inState(1);
        for (int i = 0; i <= 9; i++) {
            BENCH.due("how many", x.of(0, 16), Math.min(8, i));
            Bench.hearFrame(x, 0, Bench.here(50 + i, 1, 0));
        }
        Bench.leaveState(x, 1);
        BENCH.due("idle again", x.of(0, 16), 8);
        x.discover(0, 1);
        BENCH.due("asking anew", x.of(0, 16), 0);
    }

    private static void allOnTheWay() {
        BENCH.sentence("4 SENT FROM, 5 TAKEN, 6 parts that wait");
        BeamHouse x = new BeamHouse();
        x.device(0, 1, 1);
        x.call(0, 2, 5);
        facts(x, 0, "calling", "2 1 81 0 0 0 0 0 0 0 16 0 0 0 0 0 0");
        x.talk(0, 1, 1);
        facts(x, 0, "first", "3 1 81 5 0 0 0 0 4 0 0 1 0 0 0 1 0");
        facts(x, 1, "second", "4 2 81 5 0 0 0 0 4 0 0 1 0 0 0 0 0");
        x.store(0, 97, 1, 60, 0, 1);
        x.put(0, 97, 1);
        facts(x, 0, "asked", "3 1 81 5 0 0 2 0 2 0 0 1 0 1 1 1 0");
        x.tick(0);
        x.talk(0, 1, 1);
        facts(x, 0, "answered", "3 1 81 5 2 1 1 0 3 0 0 2 0 1 1 1 0");
        facts(x, 1, "answering", "4 2 81 5 0 2 1 0 3 0 0 3 0 0 0 0 0");
        x.end(0);
        Bench.go(x, 1);
        facts(x, 0, "before the end", "3 1 81 5 3 2 0 0 4 1 0 3 0 1 160 1 0");
        Bench.go(x, 1);
        facts(x, 0, "ended", "0 1 0 0 0 0 0 0 0 0 0 4 0 1 160 0 0");
        facts(x, 1, "ended", "0 2 0 0 0 0 0 0 0 0 0 5 0 1 0 0 0");
    }

    private static void facts(BeamHouse x, int d, String when, String due) {
        BENCH.due(when, Bench.text(Bench.facts(x, d)), due);
    }
}
