/** END and NO, what becomes IDLE, the ticks (8) of FIRST and SECOND ones, and promise 12 (end). */
public final class EndTest {
    private static final Bench BENCH = new Bench("EndTest");
    private static final int[] REFUSED = {83, 17, 25, 17 | 5 << 5, 25 | 7 << 5};

    public static void main(String[] args) {
        endsSecond();
        yesForOneThatSentEnd();
        noForOneThatSentEnd();
        noBytesBehind();
        refusesAnyLink();
        refusesOnlyWithTurn();
        refusesOnlyFirst();
        linkedRefuseNothing();
        noForFirst();
        endInsteadOfTheTurn();
        pollsEachThirdTick();
        pollsSinceItSent();
        endAgain();
        goonBehindData();
        sixthIsIdle();
        fortiethTick();
        framesOfItsLink();
        loses("NO", true);
        loses("YES", true);
        loses("ticks", true);
        loses("END", false);
        loses("ticks", false);
        losesRowThatIsTooLong();
        keepsWhatIsOver();
        ticksOfNone();
        wishesEnd();
        wishesNot();
        BENCH.ends();
    }

    private static void endsSecond() {
        BENCH.sentence("END (FIRST's): SECOND sends YES (no bytes behind), it is IDLE.");
        Peer peer = new Peer(BENCH, 3);
        peer.data(false, 0);
        peer.frame(83);
        BENCH.due("idle", peer.x.of(1, 0), 0);
        peer.due("yes", "10 115");
        peer.frame(83);
        peer.due("END again: NO", "10 31");
        BeamHouse x = Bench.linked(3);
        BENCH.dueNothing("END for a first one", x, 0, 2, 83);
    }

    /** A first one that sent END; it has "a" of no bytes. */
    private static Peer endSent() {
        Peer peer = Peer.ofFirst(BENCH, 2);
        peer.x.store(0, 97, 1, 0, 0, 0);
        peer.x.end(0);
        peer.x.tick(0);
        peer.due("END", "3 83");
        return peer;
    }

    private static void yesForOneThatSentEnd() {
        BENCH.sentence("YES (no bytes) or NO for a FIRST one that sent END: it is IDLE.");
        Peer peer = endSent();
        BENCH.dueNothing("yes with a byte", peer.x, 0, 2, 115, 0);
        BENCH.dueNothing("yes of a call", peer.x, 0, Bench.yes(1, 9, 1, 2));
        BENCH.dueNothing("yes of another link", peer.x, 0, 4, 115);
        BENCH.dueNothing("yes with bit 0", peer.x, 0, 3, 115);
        peer.frame(115);
        BENCH.due("idle", peer.x.of(0, 0), 0);
        BeamHouse x = Bench.linked(2);
        BENCH.dueNothing("no END is wished", x, 0, 2, 115);
        x.end(0);
        BENCH.dueNothing("END is wished, not sent", x, 0, 2, 115);
        Peer other = dataSentSince();
        other.frame(115);
        BENCH.due("it sent END, and DATA since", other.x.of(0, 0), 0);
        other.links();
        other.frame(115);
        BENCH.due("in this link it sent none", other.x.of(0, 0), 3);
    }

    private static void noForOneThatSentEnd() {
        BENCH.sentence("or NO for a FIRST one that sent END: it is IDLE.");
        Peer peer = endSent();
        peer.frame(31);
        BENCH.due("idle", peer.x.of(0, 0), 0);
        BENCH.due("nothing is sent", peer.x.of(0, 10), 0);
    }

    private static void noBytesBehind() {
        BENCH.sentence("GOON, AGAIN, END, NO have no bytes behind.");
        for (int kind : new int[] {17, 25, 1, 9, 83, 31}) {
            for (int n : new int[] {1, 2, 32, 70}) {
                int[] bytes = new int[n];
                for (int state = 0; state <= 4; state++) {
                    int[] frame = Bench.join(new int[] {state == 3 ? 2 : 3, kind}, bytes);
                    BENCH.dueNothing(kind + " with " + n + " in state " + state, Bench.inState(state), 0, frame);
                }
            }
        }
    }

    private static void refusesAnyLink() {
        BENCH.sentence("END, DATA, GOON, AGAIN of any link for a DEVICE that is not SECOND or FIRST");
        for (int state = 0; state <= 2; state++) {
            for (int link = 0; link < 128; link++) {
                BeamHouse x = Bench.inState(state);
                String no = link * 2 + " 31";
                for (int kind : REFUSED) {
                    Bench.hearFrame(x, 0, link * 2 + 1, kind);
                    BENCH.dueAir(kind + " of link " + link + " in state " + state, x, 0, no);
                }
                Bench.hearFrame(x, 0, link * 2 + 1, 16 | link & 7 << 1, 0, 1, 2);
                BENCH.dueAir("DATA of link " + link + " in state " + state, x, 0, no);
                BENCH.due("its state stays", x.of(0, 0), state);
            }
        }
        BeamHouse x = new BeamHouse();
        Bench.hear(x, 0, Bench.join(Bench.wrap(11, 83), Bench.wrap(13, 17)));
        BENCH.dueAir("each one", x, 0, "10 31 | 12 31");
    }

    private static void refusesOnlyWithTurn() {
        BENCH.sentence("with TURN (or END): it sends NO of that link.");
        for (int kind : new int[] {1, 9, 1 | 5 << 5, 9 | 7 << 5, 0, 2, 14 | 3 << 5}) {
            for (int state = 0; state <= 2; state++) {
                BENCH.dueNothing("kind " + kind + " in state " + state, Bench.inState(state), 0, 11, kind);
            }
        }
    }

    private static void refusesOnlyFirst() {
        BENCH.sentence("from the other's FIRST (bit 0 of byte 0)");
        for (int kind : REFUSED) {
            for (int state = 0; state <= 2; state++) {
                BENCH.dueNothing("kind " + kind + " in state " + state, Bench.inState(state), 0, 10, kind);
            }
        }
        BENCH.dueNothing("DATA", new BeamHouse(), 0, 10, 16, 0);
    }

    private static void linkedRefuseNothing() {
        BENCH.sentence("for a DEVICE that is not SECOND or FIRST");
        for (int kind : REFUSED) {
            BENCH.dueNothing("kind " + kind + " for a first one", Bench.inState(3), 0, 11, kind);
            BENCH.dueNothing("kind " + kind + " for a second one", Bench.inState(4), 0, 11, kind);
        }
    }

    private static void noForFirst() {
        BENCH.sentence("NO for FIRST: it is IDLE.");
        Peer peer = Peer.ofFirst(BENCH, 2);
        BENCH.dueNothing("of another link", peer.x, 0, 4, 31);
        BENCH.dueNothing("with bit 0", peer.x, 0, 3, 31);
        peer.frame(31);
        BENCH.due("idle", peer.x.of(0, 0), 0);
        BENCH.dueNothing("for a calling one", Bench.inState(2), 0, 2, 31);
        BENCH.dueNothing("for a second one", Bench.inState(4), 0, 3, 31);
        BeamHouse x = Bench.linked(2);
        x.tick(0);
        Bench.hearFrame(x, 1, 3, 83);
        x.take(1);
        BENCH.due("the other one is idle: NO comes", x.talk(0, 1, 1) * 10 + x.of(0, 0), 20);
    }

    private static void endInsteadOfTheTurn() {
        BENCH.sentence("FIRST: has it the TURN: as told (END instead, if that is wished and no part waits).");
        Peer peer = Peer.ofFirst(BENCH, 2);
        peer.x.store(0, 97, 1, 5, 0, 0);
        peer.x.put(0, 97, 1);
        peer.x.end(0);
        peer.x.tick(0);
        peer.due("a part waits: DATA", "3 16 0 130 0 15 1 0 4 97 73 0 8 0 0 0 0 0");
        peer.goon();
        peer.due("none waits: END", "3 83");
        BENCH.due("no turn any more", peer.x.of(0, 15), 0);
        Peer waits = Peer.ofFirst(BENCH, 7);
        waits.x.store(0, 97, 1, 40, 0, 0);
        for (int i = 0; i < 4; i++) {
            waits.data(false, 0, 131, 0, 3);
        }
        waits.x.put(0, 97, 1);
        waits.x.tick(0);
        waits.takes();
        waits.x.end(0);
        waits.goon();
        BENCH.due("a row waits for credit, no part", waits.x.of(0, 7) * 10 + waits.x.of(0, 6), 10);
        waits.due("then it is END", "3 83");
        BeamHouse x = Bench.linked(2);
        x.tick(0);
        x.end(0);
        x.take(0);
        Bench.ticks(x, 0, 3);
        BENCH.dueAir("wished, without the turn: GOON", x, 0, "3 17");
    }

    /** Of each tick from the first one since it sent, up to the 17th, what is due; with the 18th it is idle. */
    private static void duePolls(String what, BeamHouse x, String poll) {
        for (int k = 1; k <= 17; k++) {
            BENCH.due(what + ": state at tick " + k, x.tick(0), 3);
            BENCH.dueAir(what + ": tick " + k, x, 0, k % 3 == 0 ? poll : "");
        }
        BENCH.due(what + ": the sixth such one", x.tick(0), 0);
        BENCH.dueAir(what + ": sends nothing", x, 0, "");
    }

    private static void pollsEachThirdTick() {
        BENCH.sentence("Else, each third tick since it sent: GOON with TURN");
        BeamHouse x = Bench.linked(3);
        BENCH.due("its turn", x.tick(0), 3);
        BENCH.dueAir("its turn", x, 0, "3 17");
        duePolls("GOON was sent", x, "3 17");
        BeamHouse y = Bench.linked(3);
        y.store(0, 97, 1, 0, 0, 0);
        y.put(0, 97, 1);
        y.tick(0);
        y.take(0);
        duePolls("DATA was sent", y, "3 17");
    }

    private static void pollsSinceItSent() {
        BENCH.sentence("each third tick since it sent");
        Peer peer = Peer.ofFirst(BENCH, 3);
        peer.x.tick(0);
        Bench.ticks(peer.x, 0, 17);
        peer.x.take(0);
        peer.frame(17);
        BENCH.due("the turn comes at last", peer.x.of(0, 15), 1);
        peer.x.tick(0);
        peer.due("it sends", "3 17");
        duePolls("anew", peer.x, "3 17");
        Peer other = Peer.ofFirst(BENCH, 3);
        other.x.tick(0);
        Bench.ticks(other.x, 0, 2);
        other.x.take(0);
        other.frame(1);
        other.data(false, 0);
        other.x.tick(0);
        other.due("what is heard without TURN does not matter", "3 " + (17 | 1 << 5));
    }

    /** END, then the turn again with a part that waits: DATA is the latest that it sent. */
    private static Peer dataSentSince() {
        Peer peer = endSent();
        peer.frame(17);
        peer.x.put(0, 97, 1);
        peer.x.tick(0);
        BENCH.dueAir("a part waits: DATA, not END", peer.x, 0, "3 16 0 130 0 10 1 0 4 97 73 0 3");
        return peer;
    }

    private static void endAgain() {
        BENCH.sentence("GOON with TURN (END again)");
        duePolls("END was sent", endSent().x, "3 83");
        Peer peer = endSent();
        Bench.ticks(peer.x, 0, 2);
        peer.goon();
        peer.due("its turn, no part waits: END", "3 83");
        duePolls("END in its turn again", peer.x, "3 83");
        Peer waits = endSent();
        waits.x.put(0, 97, 1);
        BENCH.due("a part waits", waits.x.of(0, 6), 1);
        duePolls("a part waits, END is what it sent", waits.x, "3 83");
        Peer there = dataSentSince();
        there.next = 1;
        there.goon();
        there.due("DATA is there: END, still wished", "3 83");
        duePolls("END behind DATA", there.x, "3 83");
    }

    private static void goonBehindData() {
        BENCH.sentence("each third tick since it sent: GOON with TURN (END again)");
        duePolls("DATA is what it sent", dataSentSince().x, "3 17");
        Peer again = dataSentSince();
        again.goon();
        BENCH.dueAir("it is not there: DATA again", again.x, 0, "3 16 0 130 0 10 1 0 4 97 73 0 3");
        duePolls("DATA again is what it sent", again.x, "3 17");
        Peer there = dataSentSince();
        there.frame(1 | 1 << 5);
        BENCH.due("no part waits", there.x.of(0, 6), 0);
        duePolls("no part waits, DATA is what it sent", there.x, "3 17");
        Peer answered = dataSentSince();
        answered.data(false, 1, 160, 0, 3);
        BENCH.due("put", answered.x.of(0, 14), 160);
        Bench.ticks(answered.x, 0, 3);
        answered.due("GOON with its NEXT", "3 " + (17 | 1 << 5));
    }

    private static void sixthIsIdle() {
        BENCH.sentence("at the sixth such one: it is IDLE.");
        BeamHouse x = Bench.linked(3);
        x.tick(0);
        BENCH.due("the 17th tick", Bench.ticks(x, 0, 17), 3);
        BENCH.due("the 18th tick", x.tick(0), 0);
        BENCH.due("five polls and its turn", x.of(0, 10), 6 * 6);
        BENCH.due("no link, no window", x.of(0, 2) + x.of(0, 3), 0);
    }

    private static void fortiethTick() {
        BENCH.sentence("SECOND: with the 40th tick without a FRAME of its link it is IDLE.");
        Peer peer = new Peer(BENCH, 1);
        for (int k = 1; k < 40; k++) {
            BENCH.due("tick " + k, peer.x.tick(1), 4);
        }
        BENCH.due("the 40th", peer.x.tick(1), 0);
        peer.due("nothing is sent", "");
        BENCH.due("no link, no window", peer.x.of(1, 2) + peer.x.of(1, 3), 0);
    }

    private static void framesOfItsLink() {
        BENCH.sentence("without a FRAME of its link");
        int[][] frames = {{11, 17}, {11, 1}, {11, 9}, {11, 0, 0}, {11, 2, 0}, {11, 0}};
        for (int[] frame : frames) {
            Peer peer = new Peer(BENCH, 1);
            Bench.ticks(peer.x, 1, 39);
            Bench.hearFrame(peer.x, 1, frame);
            BENCH.due("39 ticks more behind " + frame[1], Bench.ticks(peer.x, 1, 39), 4);
            BENCH.due("the 40th", peer.x.tick(1), 0);
        }
        for (int[] frame : new int[][] {{13, 17}, {10, 17}, {255, 17}, {11, 17 | 1 << 5}, {11, 17, 0}, {11, 31}}) {
            Peer peer = new Peer(BENCH, 1);
            Bench.ticks(peer.x, 1, 39);
            Bench.hearFrame(peer.x, 1, frame);
            BENCH.due("nothing to it is " + Bench.text(frame), peer.x.tick(1), 0);
        }
    }

    /** On both sides objects are on their way, a row waits half sent, half a row has come. */
    private static void busy(Peer peer, boolean isSent) {
        BeamHouse x = peer.x;
        x.store(peer.d, 97, 1, 90, 0, 0);
        peer.data(false, 0, 131, 0, 7, 1, 0, 4, 97);
        peer.data(false, 0, 2, 0, 10, 1, 0, 4, 98, 72, 0, 3);
        x.put(peer.d, 97, 1);
        peer.data(false, 128, 9, 9);
        if (isSent) {
            peer.goon();
            peer.x.take(peer.d);
            peer.frame(1 | 1 << 5);
        }
        BENCH.due("sent from, taken", x.of(peer.d, 4) * 10 + x.of(peer.d, 5), isSent ? 13 : 3);
        BENCH.due("parts, rows", x.of(peer.d, 6) * 10 + x.of(peer.d, 7), isSent ? 31 : 41);
        BENCH.due("credit, owed, asked", x.of(peer.d, 8) * 100 + x.of(peer.d, 9) * 10 + x.of(peer.d, 14), 11);
    }

    private static void becomesIdle(Peer peer, String way) {
        if (way.equals("ticks")) {
            Bench.ticks(peer.x, peer.d, peer.d == 0 ? 18 : 40);
        } else {
            peer.frame(way.equals("NO") ? 31 : way.equals("YES") ? 115 : 83);
        }
        peer.x.take(peer.d);
        BENCH.due("idle by " + way, peer.x.of(peer.d, 0), 0);
    }

    private static void loses(String way, boolean isFirst) {
        BENCH.sentence("What becomes IDLE loses its parts, what it had of UP and all of its OBJECTS on their way (SENT FROM, TAKEN are 0 then).");
        Peer peer = isFirst ? Peer.ofFirst(BENCH, 7) : new Peer(BENCH, 7);
        BeamHouse x = peer.x;
        if (way.equals("YES")) {
            x.end(0);
            x.tick(0);
            x.take(0);
        }
        busy(peer, !way.equals("YES"));
        becomesIdle(peer, way);
        int[] facts = Bench.facts(x, peer.d);
        facts[11] = 0;
        BENCH.due("all of it", Bench.text(facts), "0 " + (peer.d + 1) + " 0 0 0 0 0 0 0 0 0 0 0 1 0 0 0");
        BENCH.due("its object stays", x.size(peer.d, 97, 1), 90);
        peer.links();
        BENCH.due("linked again: parts, rows", x.of(peer.d, 6) * 10 + x.of(peer.d, 7), 0);
        BENCH.due("linked again: credit, owed", x.of(peer.d, 8) * 10 + x.of(peer.d, 9), 40);
        peer.dueAnswer("half a row is gone", "196 0 3", 131, 0, 7, 1, 0, 4, 99);
        peer.dueAnswer("the get is gone", "192 0 3", 131, 0, 3);
        peer.dueAnswer("the put is gone", "192 0 3", 130, 0, 6, 73, 0, 3);
        peer.dueAnswer("its own put does not go on", "", 144, 0, 3);
        BENCH.due("it may ask", x.get(peer.d, 98, 1), 1);
        peer.goon();
        peer.dueRows("from the row's first byte", "131 0 7 1 0 4 98");
    }

    private static void losesRowThatIsTooLong() {
        BENCH.sentence("loses its parts, what it had of UP");
        Peer peer = new Peer(BENCH, 7);
        for (int i = 0; i < 3; i++) {
            peer.data(false, Bench.change(new int[32], 0, 128));
        }
        peer.frame(83);
        peer.links();
        peer.dueAnswer("the first row of the next link", "192 0 3", 131, 0, 3);
    }

    private static void keepsWhatIsOver() {
        BENCH.sentence("0 nothing yet (or it became IDLE on its way)");
        Peer peer = Peer.ofFirst(BENCH, 7);
        BENCH.due("nothing yet", peer.x.of(0, 14), 0);
        peer.x.get(0, 98, 1);
        BENCH.due("on its way", peer.x.of(0, 14), 1);
        peer.data(false, 0, 196, 0, 3);
        peer.frame(31);
        BENCH.due("what is over stays", peer.x.of(0, 0) * 1000 + peer.x.of(0, 14), 196);
        peer.links();
        BENCH.due("in the next link, too", peer.x.of(0, 14), 196);
    }

    private static void ticksOfNone() {
        BENCH.sentence("A tick of a DEVICE: its STATE then. -1.");
        BeamHouse x = new BeamHouse();
        BENCH.due("no such devices", x.tick(-1) + x.tick(4) + x.tick(Integer.MIN_VALUE) + x.tick(Integer.MAX_VALUE), -4);
        for (int state = 0; state <= 4; state++) {
            BENCH.due("state " + state, Bench.inState(state).tick(0), state);
        }
        BENCH.due("an idle one's sends nothing", Bench.ticks(x, 0, 50) + x.of(0, 10), 0);
    }

    private static void wishesEnd() {
        BENCH.sentence("A FIRST DEVICE wishes END: 1.");
        BeamHouse x = Bench.linked(1);
        BENCH.due("end", x.end(0), 1);
        BENCH.due("end twice", x.end(0), 1);
        BENCH.due("nothing is sent before a tick", x.of(0, 10) * 10 + x.of(0, 0), 3);
        x.tick(0);
        BENCH.due("end behind END", x.end(0), 1);
        BENCH.due("yes", x.talk(0, 1, 1), 2);
        BENCH.due("both are idle", x.of(0, 0) + x.of(1, 0), 0);
        int link = x.call(0, 2, 1);
        x.talk(0, 1, 1);
        x.tick(0);
        BENCH.dueAir("it is not wished in the next link", x, 0, link * 2 + 1 + " 17");
    }

    private static void wishesNot() {
        BENCH.sentence("-1; -2 not FIRST.");
        BeamHouse x = new BeamHouse();
        BENCH.due("end(-1), end(4)", x.end(-1) + x.end(4), -2);
        for (int state : new int[] {0, 1, 2, 4}) {
            BENCH.due("in state " + state, Bench.inState(state).end(0), -2);
        }
        x.call(0, 2, 1);
        x.end(0);
        x.talk(0, 1, 1);
        x.tick(0);
        BENCH.dueAir("what was refused is not wished", x, 0, "3 17");
    }
}
