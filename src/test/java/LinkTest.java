/** Promises 11 (call), 12 (end), and the ticks (8) and turns of links. */
public final class LinkTest {
    private static final Bench BENCH = new Bench("LinkTest");

    public static void main(String[] args) {
        arguments();
        calling();
        yesForCalling();
        calledAgain();
        calledByAnother();
        windows();
        numbers();
        missed();
        knownToBeThere();
        farNext();
        otherLinks();
        polls();
        secondWaits();
        ends();
        endRefused();
        endAgain();
        endInItsTurnAgain();
        partBehindEnd();
        dataBehindEnd();
        dataThereWithoutTurn();
        yesBehindData();
        noForFirst();
        linkedAnew();
        secondAnew();
        BENCH.ends();
    }

    private static void arguments() {
        BeamHouse x = new BeamHouse();
        BENCH.due("call(-1)", x.call(-1, 1, 0), -1);
        BENCH.due("call(4)", x.call(4, 1, 1), -1);
        BENCH.due("window 0", x.call(0, 1, 0), -3);
        BENCH.due("window 8", x.call(0, 1, 8), -3);
        BENCH.due("window -1", x.call(0, 1, -1), -3);
        BENCH.due("nothing is sent", x.of(0, 10), 0);
        BENCH.due("nothing is drawn", x.call(0, 1, 7), 1);
        BENCH.due("not idle", x.call(0, 1, 0), -2);
        x.discover(1, 1);
        BENCH.due("asking", x.call(1, 1, 1), -2);
        BENCH.due("end(-1)", x.end(-1), -1);
        BENCH.due("end(4)", x.end(4), -1);
        BENCH.due("end of an idle one", x.end(3), -2);
        BENCH.due("end of a calling one", x.end(0), -2);
        BENCH.due("end of an asking one", x.end(1), -2);
        BeamHouse y = Bench.linked(1);
        BENCH.due("end of a second one", y.end(1), -2);
        BENCH.due("end of a first one", y.end(0), 1);
        BENCH.due("end twice", y.end(0), 1);
    }

    private static void calling() {
        BeamHouse x = new BeamHouse();
        x.device(0, 300, 1);
        BENCH.due("the link", x.call(0, -2, 4), 81);
        String call = "255 147 44 1 0 0 254 255 255 255 81 4";
        BENCH.due("a call", Bench.air(x, 0), call);
        for (int i = 0; i < 3; i++) {
            BENCH.due("tick", x.tick(0), 2);
            BENCH.due("again", Bench.air(x, 0), call);
        }
        BENCH.due("the fourth tick", x.tick(0), 0);
        BENCH.due("nothing", Bench.air(x, 0), "");
        BENCH.due("no link", x.of(0, 2), 0);
        x.call(0, -2, 4);
        BENCH.due("a new call has ticks anew", x.tick(0) + x.tick(0) + x.tick(0), 6);
        BENCH.due("a new call has ticks anew", x.tick(0), 0);
    }

    private static void yesForCalling() {
        int[] yes = {162, 115, 5, 0, 0, 0, 44, 1, 0, 0, 3};
        BENCH.due("yes", stateBehind(yes, 0, 162), 3);
        BENCH.due("yes of another link", stateBehind(yes, 0, 160), 2);
        BENCH.due("yes with bit 0", stateBehind(yes, 0, 163), 2);
        BENCH.due("yes of another one", stateBehind(yes, 2, 6), 2);
        BENCH.due("yes of another one", stateBehind(yes, 5, 1), 2);
        BENCH.due("yes for another one", stateBehind(yes, 6, 45), 2);
        BENCH.due("yes with window 0", stateBehind(yes, 10, 0), 2);
        BENCH.due("yes with window 8", stateBehind(yes, 10, 8), 2);
        BENCH.due("yes with window 7", stateBehind(yes, 10, 7), 3);
        BENCH.due("a shorter one", stateBehind(java.util.Arrays.copyOf(yes, 10), 0, 162), 2);
        BENCH.due("a longer one", stateBehind(java.util.Arrays.copyOf(yes, 12), 0, 162), 2);
        BENCH.due("an empty one", stateBehind(java.util.Arrays.copyOf(yes, 2), 0, 162), 2);
        BENCH.due("NO", stateBehind(new int[] {162, 31}, 0, 162), 2);
        BeamHouse x = calls();
        Bench.hearFrame(x, 0, yes);
        BENCH.due("its window is that of the yes", x.of(0, 3), 3);
        BENCH.due("it has the turn", x.of(0, 15), 1);
        BENCH.due("its credit", x.of(0, 8), 4);
        yes[10] = 5;
        Bench.hearFrame(x, 0, yes);
        BENCH.due("another yes is nothing", x.of(0, 3), 3);
    }

    private static BeamHouse calls() {
        BeamHouse x = new BeamHouse();
        x.device(0, 300, 1);
        x.call(0, 5, 6);
        Bench.air(x, 0);
        return x;
    }

    private static int stateBehind(int[] frame, int i, int octet) {
        BeamHouse x = calls();
        int[] changed = frame.clone();
        changed[i] = octet;
        Bench.hearFrame(x, 0, changed);
        return x.of(0, 0);
    }

    private static void calledAgain() {
        BeamHouse x = new BeamHouse();
        int[] call = {255, 147, 9, 0, 0, 0, 2, 0, 0, 0, 5, 3};
        Bench.hearFrame(x, 1, call);
        BENCH.due("yes", Bench.air(x, 1), "10 115 2 0 0 0 9 0 0 0 3");
        BENCH.due("second", x.of(1, 0), 4);
        BENCH.due("of the link", x.of(1, 2), 5);
        BENCH.due("with the window", x.of(1, 3), 3);
        Bench.hearFrame(x, 1, call);
        BENCH.due("yes again", Bench.air(x, 1), "10 115 2 0 0 0 9 0 0 0 3");
        Bench.hearFrame(x, 1, 11, 17);
        Bench.air(x, 1);
        Bench.hearFrame(x, 1, call);
        BENCH.due("no data yet: yes again", Bench.air(x, 1), "10 115 2 0 0 0 9 0 0 0 3");
        for (int i = 0; i < 8; i++) {
            Bench.hearFrame(x, 1, 11, i << 1, 0);
            Bench.hearFrame(x, 1, call);
            BENCH.due("data was taken: nothing", Bench.air(x, 1), "");
        }
        BENCH.due("its number is round", x.of(1, 5), 0);
        BENCH.due("still second", x.of(1, 0), 4);
    }

    private static void calledByAnother() {
        BeamHouse x = new BeamHouse();
        Bench.hearFrame(x, 1, 255, 147, 9, 0, 0, 0, 2, 0, 0, 0, 5, 3);
        Bench.air(x, 1);
        Bench.hearFrame(x, 1, 255, 147, 8, 0, 0, 0, 2, 0, 0, 0, 5, 3);
        BENCH.due("another caller", Bench.air(x, 1), "");
        Bench.hearFrame(x, 1, 255, 147, 9, 0, 0, 0, 2, 0, 0, 0, 6, 3);
        BENCH.due("another link", Bench.air(x, 1), "");
        BENCH.due("its link stays", x.of(1, 2), 5);
        BeamHouse y = Bench.linked(2);
        Bench.hearFrame(y, 0, 255, 147, 2, 0, 0, 0, 1, 0, 0, 0, 1, 3);
        BENCH.due("a first one", Bench.air(y, 0), "");
        y.discover(2, 6);
        Bench.hearFrame(y, 2, 255, 147, 2, 0, 0, 0, 3, 0, 0, 0, 1, 3);
        BENCH.due("an asking one", Bench.air(y, 2), "");
        BeamHouse z = new BeamHouse();
        z.call(0, 2, 1);
        Bench.air(z, 0);
        Bench.hearFrame(z, 0, 255, 147, 2, 0, 0, 0, 1, 0, 0, 0, 1, 3);
        BENCH.due("a calling one", Bench.air(z, 0), "");
    }

    /** A put of 120 bytes has four credits' worth of parts at most: 2 of its first row. */
    private static void windows() {
        for (int window = 1; window <= 7; window++) {
            Peer peer = new Peer(window);
            peer.x.store(1, 97, 1, 120, 0, 0);
            peer.x.put(1, 97, 1);
            peer.data(false, 20);
            for (int i = 0; i < 6; i++) {
                peer.data(false, 0, 131, 0, 3);
            }
            BENCH.due("parts", peer.x.of(1, 6), 8);
            peer.goon();
            java.util.List<int[]> frames = Bench.sent(peer.x, 1);
            BENCH.due("as many as the window lets", frames.size(), window);
            for (int i = 0; i < frames.size(); i++) {
                int[] frame = frames.get(i);
                BENCH.due("from the second one", frame[0], 10);
                BENCH.due("numbers, the last one with turn", frame[1], i << 1 | (i == window - 1 ? 16 : 0) | 7 << 5);
            }
            peer.goon();
            BENCH.due("not known: all again", Bench.told(Bench.sent(peer.x, 1)), Bench.told(frames));
            peer.next = window - 1;
            peer.goon();
            BENCH.due("the last one again", Bench.sent(peer.x, 1).get(0)[1] >> 1 & 7, window - 1);
            BENCH.due("sent from", peer.x.of(1, 4), window - 1);
            BENCH.due("parts", peer.x.of(1, 6), 8 - window + 1);
        }
    }

    private static void numbers() {
        Peer peer = new Peer(7);
        for (int i = 0; i < 20; i++) {
            BENCH.due("taken", peer.x.of(1, 5), i & 7);
            peer.data(true, 0);
            BENCH.due("goon with the next", peer.takes(), "10 " + (17 | (i + 1 & 7) << 5));
        }
    }

    private static void missed() {
        Peer peer = new Peer(7);
        peer.frame(2 | 16, 0);
        BENCH.due("number 1 for 0: again", peer.takes(), "10 25");
        BENCH.due("not taken", peer.x.of(1, 5), 0);
        peer.goon();
        BENCH.due("told once", peer.takes(), "10 17");
        peer.data(false, 0);
        peer.frame(0, 0);
        BENCH.due("doubled: nothing before the turn", peer.takes(), "");
        peer.goon();
        BENCH.due("doubled: again", peer.takes(), "10 " + (25 | 1 << 5));
        peer.frame(2);
        peer.goon();
        BENCH.due("without bytes: again", peer.takes(), "10 " + (25 | 1 << 5));
        peer.frame(2 | 16, new int[33]);
        BENCH.due("33 bytes: again, and the turn", peer.takes(), "10 " + (25 | 1 << 5));
        int[] most = new int[32];
        most[0] = 128;
        peer.data(true, most);
        BENCH.due("32 bytes are taken", peer.takes(), "10 " + (17 | 2 << 5));
        peer.x.store(1, 97, 1, 1, 7, 0);
        peer.x.put(1, 97, 1);
        peer.frame(14 | 16, 0);
        BENCH.due("missed, but it has data", peer.takes(), "10 80 1 130 0 11 1 0 4 97 73 0 4 7");
        peer.goon();
        BENCH.due("that was its turn", peer.takes(), "10 " + (17 | 2 << 5));
    }

    private static void knownToBeThere() {
        Peer peer = new Peer(7);
        peer.x.store(1, 97, 1, 40, 0, 0);
        peer.x.put(1, 97, 1);
        BENCH.due("two parts", peer.x.of(1, 6), 2);
        peer.goon();
        Bench.sent(peer.x, 1);
        BENCH.due("they wait still", peer.x.of(1, 6), 2);
        peer.frame(1 | 1 << 5);
        BENCH.due("one is there", peer.x.of(1, 6) * 10 + peer.x.of(1, 4), 11);
        peer.frame(9 | 2 << 5);
        BENCH.due("AGAIN tells it, too", peer.x.of(1, 6) * 10 + peer.x.of(1, 4), 2);
        BENCH.due("without turn nothing is sent", peer.takes(), "");
    }

    /** Nothing of a frame counts whose NEXT is farther on than what was sent. */
    private static void farNext() {
        Peer peer = new Peer(7);
        peer.frame(17 | 1 << 5);
        BENCH.due("nothing was sent: no turn", peer.takes(), "");
        peer.frame(16 | 7 << 5, 0);
        BENCH.due("nothing was sent: no data", peer.x.of(1, 5), 0);
        peer.goon();
        BENCH.due("nor was it missed", peer.takes(), "10 17");
        peer.x.store(1, 97, 1, 40, 0, 0);
        peer.x.put(1, 97, 1);
        peer.frame(17 | 1 << 5);
        BENCH.due("waiting is not sent", peer.takes() + peer.x.of(1, 6), "2");
        peer.goon();
        Bench.sent(peer.x, 1);
        peer.frame(17 | 3 << 5);
        BENCH.due("two were sent, not three", peer.takes() + peer.x.of(1, 6), "2");
        peer.frame(1 | 1 << 5);
        peer.frame(17 | 3 << 5);
        BENCH.due("one of two is there: not two more", peer.takes() + peer.x.of(1, 6), "1");
        peer.frame(17 | 2 << 5);
        BENCH.due("two were sent", peer.takes() + peer.x.of(1, 6), "10 170");
        peer.frame(17 | 1 << 5);
        BENCH.due("an old frame", peer.takes(), "");
    }

    private static void otherLinks() {
        Peer peer = new Peer(7);
        for (int head : new int[] {10, 9, 13, 255, 1}) {
            for (int[] frame : new int[][] {{head, 17}, {head, 25}, {head, 16, 0}, {head, 83}, {head, 31}}) {
                Bench.hearFrame(peer.x, 1, frame);
            }
        }
        Bench.hearFrame(peer.x, 1, 11, 31);
        Bench.hearFrame(peer.x, 1, 11, 115);
        Bench.hearFrame(peer.x, 1, 11, 83, 0);
        Bench.hearFrame(peer.x, 1, 11, 17, 0);
        Bench.hearFrame(peer.x, 1, 11, 25, 0);
        BENCH.due("nothing", peer.takes(), "");
        BENCH.due("still second", peer.x.of(1, 0), 4);
        peer.goon();
        BENCH.due("nothing was missed", peer.takes(), "10 17");
    }

    private static void polls() {
        BeamHouse x = Bench.linked(3);
        x.tick(0);
        BENCH.due("its turn", Bench.air(x, 0), "3 17");
        for (int k = 1; k <= 17; k++) {
            BENCH.due("tick " + k, x.tick(0), 3);
            BENCH.due("each third one", Bench.air(x, 0), k % 3 == 0 ? "3 17" : "");
        }
        BENCH.due("the sixth third one", x.tick(0), 0);
        BENCH.due("sends nothing", Bench.air(x, 0), "");
        BeamHouse y = Bench.linked(3);
        y.tick(0);
        for (int k = 1; k <= 17; k++) {
            y.tick(0);
        }
        Bench.air(y, 0);
        Bench.hearFrame(y, 0, 2, 17);
        BENCH.due("the turn comes at last", y.of(0, 15), 1);
        y.tick(0);
        BENCH.due("it sends", Bench.air(y, 0), "3 17");
        for (int k = 1; k <= 17; k++) {
            BENCH.due("anew", y.tick(0), 3);
        }
        BENCH.due("anew", y.tick(0), 0);
        BeamHouse z = Bench.linked(3);
        z.tick(0);
        Bench.air(z, 0);
        Bench.hearFrame(z, 0, 2, 2, 0);
        BENCH.due("missed", z.of(0, 5), 0);
        z.tick(0);
        z.tick(0);
        z.tick(0);
        BENCH.due("a poll is GOON", Bench.air(z, 0), "3 17");
        Bench.hearFrame(z, 0, 2, 17);
        z.tick(0);
        BENCH.due("its turn is AGAIN", Bench.air(z, 0), "3 25");
    }

    private static void secondWaits() {
        Peer peer = new Peer(1);
        for (int k = 1; k < 40; k++) {
            BENCH.due("tick " + k, peer.x.tick(1), 4);
        }
        peer.goon();
        BENCH.due("it is there", peer.takes(), "10 17");
        for (int k = 1; k < 40; k++) {
            BENCH.due("tick " + k, peer.x.tick(1), 4);
        }
        peer.frame(1);
        for (int k = 1; k < 40; k++) {
            BENCH.due("without turn, too: tick " + k, peer.x.tick(1), 4);
        }
        Bench.hearFrame(peer.x, 1, 13, 17);
        BENCH.due("another link's frame does not count", peer.x.tick(1), 0);
        BENCH.due("nothing is sent", peer.takes(), "");
        BENCH.due("no link", peer.x.of(1, 2), 0);
    }

    private static void ends() {
        BeamHouse x = Bench.linked(2);
        x.store(0, 97, 1, 5, 0, 0);
        x.put(0, 97, 1);
        x.end(0);
        x.tick(0);
        BENCH.due("parts go first", Bench.sent(x, 0).get(0)[1], 16);
        BENCH.due("still first", x.of(0, 0), 3);
        BeamHouse y = Bench.linked(2);
        y.store(0, 97, 1, 5, 0, 0);
        y.put(0, 97, 1);
        y.end(0);
        Bench.go(y, 1);
        BENCH.due("put", y.of(0, 14), 160);
        y.tick(0);
        BENCH.due("then END", Bench.air(y, 0), "3 83");
        BENCH.due("no turn", y.of(0, 15), 0);
        Bench.hearFrame(y, 0, 2, 115, 0);
        Bench.hearFrame(y, 0, 4, 115);
        Bench.hearFrame(y, 0, 3, 115);
        BENCH.due("no such yes", y.of(0, 0), 3);
        Bench.hearFrame(y, 1, 3, 83);
        BENCH.due("yes", Bench.air(y, 1), "2 115");
        BENCH.due("idle", y.of(1, 0), 0);
        Bench.hearFrame(y, 0, 2, 115);
        BENCH.due("idle", y.of(0, 0), 0);
    }

    private static void endRefused() {
        BeamHouse x = Bench.linked(2);
        Bench.hearFrame(x, 0, 2, 115);
        BENCH.due("yes without an END", x.of(0, 0), 3);
        Bench.hearFrame(x, 0, 2, 83);
        BENCH.due("END of the second one", x.of(0, 0), 3);
        BENCH.due("END of the second one", Bench.air(x, 0), "");
        x.end(0);
        Bench.hearFrame(x, 0, 2, 115);
        BENCH.due("wished, not sent", x.of(0, 0), 3);
        x.tick(0);
        Bench.hearFrame(x, 0, 2, 31);
        BENCH.due("NO", x.of(0, 0), 0);
    }

    private static void endAgain() {
        BeamHouse x = Bench.linked(2);
        x.end(0);
        x.tick(0);
        BENCH.due("END", Bench.air(x, 0), "3 83");
        for (int k = 1; k <= 17; k++) {
            BENCH.due("tick " + k, x.tick(0), 3);
            BENCH.due("END again", Bench.air(x, 0), k % 3 == 0 ? "3 83" : "");
        }
        BENCH.due("the sixth time", x.tick(0), 0);
        BeamHouse y = Bench.linked(2);
        y.tick(0);
        y.end(0);
        Bench.air(y, 0);
        y.tick(0);
        y.tick(0);
        y.tick(0);
        BENCH.due("wished, not sent: GOON", Bench.air(y, 0), "3 17");
        Bench.hearFrame(y, 0, 2, 17);
        y.tick(0);
        BENCH.due("with the turn: END", Bench.air(y, 0), "3 83");
    }

    private static BeamHouse endSent() {
        BeamHouse x = Bench.linked(2);
        x.store(0, 97, 1, 0, 0, 0);
        x.end(0);
        x.tick(0);
        BENCH.due("END", Bench.air(x, 0), "3 83");
        return x;
    }

    /** END, then the turn again with a part that waits: DATA is the latest that it sent. */
    private static BeamHouse dataSentSince() {
        BeamHouse x = endSent();
        Bench.hearFrame(x, 0, 2, 17);
        x.put(0, 97, 1);
        x.tick(0);
        BENCH.due("a part waits: DATA, not END", Bench.air(x, 0), "3 16 0 130 0 10 1 0 4 97 73 0 3");
        return x;
    }

    /** Of each tick from the first one since it sent, up to the 17th, what is due; with the 18th it is idle. */
    private static void pollsAre(String what, BeamHouse x, String poll) {
        for (int k = 1; k <= 17; k++) {
            BENCH.due(what + ": state at tick " + k, x.tick(0), 3);
            BENCH.due(what + ": tick " + k, Bench.air(x, 0), k % 3 == 0 ? poll : "");
        }
        BENCH.due(what + ": the sixth time", x.tick(0), 0);
        BENCH.due(what + ": then nothing", Bench.air(x, 0), "");
    }

    private static void endInItsTurnAgain() {
        BeamHouse x = endSent();
        x.tick(0);
        x.tick(0);
        Bench.hearFrame(x, 0, 2, 17);
        x.tick(0);
        BENCH.due("no part waits: END", Bench.air(x, 0), "3 83");
        pollsAre("END in its turn again", x, "3 83");
    }

    /** What waits does not matter without the turn: END is what it sent. */
    private static void partBehindEnd() {
        BeamHouse x = endSent();
        x.put(0, 97, 1);
        BENCH.due("a part waits", x.of(0, 6), 1);
        pollsAre("a part waits, END is what it sent", x, "3 83");
    }

    private static void dataBehindEnd() {
        pollsAre("DATA is what it sent", dataSentSince(), "3 17");
        BeamHouse x = dataSentSince();
        Bench.hearFrame(x, 0, 2, 17 | 1 << 5);
        x.tick(0);
        BENCH.due("it is there: END, still wished", Bench.air(x, 0), "3 83");
        pollsAre("END behind DATA", x, "3 83");
        BeamHouse y = dataSentSince();
        Bench.hearFrame(y, 0, 2, 17);
        y.tick(0);
        BENCH.due("it is not there: DATA again", Bench.sent(y, 0).get(0)[1], 16);
        pollsAre("DATA again is what it sent", y, "3 17");
    }

    private static void dataThereWithoutTurn() {
        BeamHouse x = dataSentSince();
        Bench.hearFrame(x, 0, 2, 1 | 1 << 5);
        BENCH.due("no part waits", x.of(0, 6), 0);
        pollsAre("no part waits, DATA is what it sent", x, "3 17");
        BeamHouse y = dataSentSince();
        Bench.hearFrame(y, 0, 2, 0, 1, 160, 0, 3);
        BENCH.due("put", y.of(0, 14), 160);
        y.tick(0);
        y.tick(0);
        y.tick(0);
        BENCH.due("GOON with its NEXT", Bench.air(y, 0), "3 " + (17 | 1 << 5));
    }

    /** It sent END in this link, whatever it sent since. */
    private static void yesBehindData() {
        BeamHouse x = dataSentSince();
        Bench.hearFrame(x, 0, 2, 115);
        BENCH.due("YES for one that sent END", x.of(0, 0), 0);
        BENCH.due("lost on its way", x.of(0, 14), 0);
    }

    /** Nothing of a link goes on in the next one. */
    private static void linkedAnew() {
        BeamHouse x = Bench.linked(2);
        x.store(0, 97, 1, 60, 0, 0);
        x.put(0, 97, 1);
        x.tick(0);
        x.end(0);
        Bench.hearFrame(x, 0, 2, 6, 128, 1);
        Bench.hearFrame(x, 0, 2, 31);
        BENCH.due("idle", x.of(0, 0), 0);
        Bench.air(x, 0);
        x.take(1);
        Bench.hearFrame(x, 1, 3, 83);
        x.take(1);
        int link = x.call(0, 2, 2);
        x.talk(0, 1, 1);
        BENCH.due("first again", x.of(0, 0), 3);
        Bench.hearFrame(x, 0, link * 2, 115);
        BENCH.due("no END was sent", x.of(0, 0), 3);
        Bench.hearFrame(x, 0, link * 2, 17 | 1 << 5);
        BENCH.due("nothing was sent in this link", x.of(0, 4), 0);
        x.tick(0);
        BENCH.due("nothing was missed, none is wished", Bench.air(x, 0), link * 2 + 1 + " 17");
        x.end(0);
        Bench.hearFrame(x, 0, link * 2, 17);
        x.tick(0);
        Bench.hearFrame(x, 0, link * 2, 115);
        Bench.air(x, 0);
        link = x.call(0, 2, 2);
        Bench.hearFrame(x, 0, link * 2, 115, 2, 0, 0, 0, 1, 0, 0, 0, 2);
        Bench.hearFrame(x, 0, link * 2, 115);
        BENCH.due("no END was sent in this link", x.of(0, 0), 3);
    }

    private static void secondAnew() {
        Peer peer = new Peer(7);
        peer.x.store(1, 97, 1, 60, 0, 0);
        for (int i = 0; i < 3; i++) {
            peer.data(false, 0, 131, 0, 3);
        }
        peer.x.put(1, 97, 1);
        BENCH.due("half of a row waits", peer.x.of(1, 7), 1);
        int[] part = new int[32];
        part[0] = 128;
        peer.data(false, part);
        peer.frame(83);
        Bench.sent(peer.x, 1);
        int[] call = {255, 147, 9, 0, 0, 0, 2, 0, 0, 0, 5, 7};
        Bench.hearFrame(peer.x, 1, call);
        Bench.sent(peer.x, 1);
        Bench.hearFrame(peer.x, 1, call);
        BENCH.due("no data was taken in this link", Bench.sent(peer.x, 1).size(), 1);
        BENCH.due("no rows, no parts", peer.x.of(1, 6) + peer.x.of(1, 7), 0);
        BENCH.due("credit, owed", peer.x.of(1, 8) * 10 + peer.x.of(1, 9), 40);
        peer.number = 0;
        peer.next = 0;
        peer.data(true, 0, 131, 0, 7, 1, 0, 4, 98);
        BENCH.due("half a row is gone", peer.takes(), "10 " + (16 | 1 << 5) + " 1 196 0 3");
        peer.x.put(1, 97, 1);
        peer.goon();
        java.util.List<int[]> frames = Bench.sent(peer.x, 1);
        BENCH.due("a row from its first byte", frames.get(0)[3] * 1000 + frames.get(0)[2], 2128);
    }

    private static void noForFirst() {
        BeamHouse x = Bench.linked(2);
        Bench.hearFrame(x, 0, 2, 31, 0);
        Bench.hearFrame(x, 0, 3, 31);
        Bench.hearFrame(x, 0, 4, 31);
        BENCH.due("no such NO", x.of(0, 0), 3);
        x.get(0, 97, 1);
        BENCH.due("on its way", x.of(0, 14), 1);
        Bench.hearFrame(x, 0, 2, 31);
        BENCH.due("NO", x.of(0, 0), 0);
        BENCH.due("lost on its way", x.of(0, 14), 0);
        BENCH.due("parts are lost", x.of(0, 6), 0);
        BENCH.due("the turn is lost", x.of(0, 15), 0);
        x.call(0, 2, 2);
        Bench.air(x, 0);
        BENCH.due("it may call again", x.of(0, 0), 2);
    }
}
