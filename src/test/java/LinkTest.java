/** LINKS and the TURN: numbers, windows, what is known to be there, what is missed. */
public final class LinkTest {
    private static final Bench BENCH = new Bench("LinkTest");
    private static final int[] ASKED = {2, 131, 0, 3};

    public static void main(String[] args) {
        numbersAtFirst();
        ofAnotherLink();
        knownUpToNext();
        knownOfFirst();
        nothingOfTheFrame();
        whatWasSentLast();
        takesItsNumber();
        takes1To32Bytes();
        takenGoesRound();
        hasTheTurn();
        turnOfSecond();
        turnOfFirst();
        asManyAsTheWindow();
        againIfMissed();
        againOfFirst();
        missedSinceItsLatestTurn();
        nextIsTaken();
        beginsAnew();
        BENCH.ends();
    }

    private static void numbersAtFirst() {
        BENCH.sentence("SENT FROM (the number of the first part that is not known to be there; 0 at first), TAKEN (the number of the next DATA it takes; 0 at first)");
        BeamHouse x = Bench.linked(3);
        for (int d = 0; d < 2; d++) {
            BENCH.due("sent from, taken, parts of " + d, x.of(d, 4) + x.of(d, 5) + x.of(d, 6), 0);
        }
        x.store(0, 97, 1, 0, 0, 0);
        x.put(0, 97, 1);
        BENCH.due("a part that waits is not known", x.of(0, 4) * 10 + x.of(0, 6), 1);
        x.tick(0);
        BENCH.due("nor is one that is sent", x.of(0, 4) * 10 + x.of(0, 6), 1);
        x.talk(0, 1, 1);
        BENCH.due("sent from, taken of the first one", x.of(0, 4) * 10 + x.of(0, 5), 11);
        BENCH.due("sent from, taken of the second one", x.of(1, 4) * 10 + x.of(1, 5), 1);
    }

    private static void ofAnotherLink() {
        BENCH.sentence("FRAMES of another link, or with bit 0 of byte 0 as its own has it, are nothing.");
        int[][] frames = {{0, 17}, {0, 25}, {0, 16, 0}, {0, 16}, {0, 83}, {0, 31}, {0, 115}};
        for (int head = 0; head < 256; head++) {
            Peer peer = new Peer(BENCH, 7);
            BeamHouse x = Bench.linked(7);
            x.end(0);
            x.tick(0);
            for (int[] frame : frames) {
                if (head != 11) {
                    Bench.hearFrame(peer.x, 1, Bench.change(frame, 0, head));
                }
                if (head != 2) {
                    Bench.hearFrame(x, 0, Bench.change(frame, 0, head));
                }
            }
            BENCH.due("second by head " + head, peer.x.of(1, 0) * 100 + peer.x.of(1, 5) * 10 + peer.x.of(1, 10), 400);
            BENCH.due("first by head " + head, x.of(0, 0) * 100 + x.of(0, 5) * 10 + x.of(0, 15), 300);
            peer.goon();
            peer.due("nothing was missed", "10 17");
        }
    }

    /** Device 1's numbers begin at from; eight parts wait then, and it has used a turn. */
    private static Peer sending(int window, int from) {
        Peer peer = new Peer(BENCH, window);
        for (int i = 0; i < from; i++) {
            peer.data(true, ASKED);
            peer.takes();
        }
        for (int i = 0; i < 8; i++) {
            peer.data(false, ASKED);
        }
        BENCH.due("sent from, parts", peer.x.of(1, 4) * 10 + peer.x.of(1, 6), from * 10 + 8);
        peer.goon();
        peer.x.take(1);
        return peer;
    }

    private static void knownUpToNext() {
        BENCH.sentence("NEXT: parts from SENT FROM on, up to it, are known to be there (if NEXT is not farther on, modulo 8, than what was sent last");
        for (int window = 1; window <= 7; window++) {
            for (int from : new int[] {0, 1, 5, 7}) {
                for (int on = 0; on <= 7; on++) {
                    Peer peer = sending(window, from);
                    int next = from + on & 7;
                    peer.frame((on % 2 == 0 ? 1 : 9) | next << 5);
                    boolean counts = on <= window;
                    String what = on + " on from " + from + " with window " + window;
                    BENCH.due(what + ": sent from", peer.x.of(1, 4), counts ? next : from);
                    BENCH.due(what + ": parts", peer.x.of(1, 6), counts ? 8 - on : 8);
                }
            }
        }
    }

    private static void knownOfFirst() {
        BENCH.sentence("they go from what waits.");
        for (int on = 0; on <= 7; on++) {
            BeamHouse x = Bench.linked(7);
            x.store(0, 97, 1, 40, 0, 0);
            x.put(0, 97, 1);
            x.tick(0);
            Bench.hearFrame(x, 0, 2, 1 | on << 5);
            boolean counts = on <= 2;
            BENCH.due("sent from, parts with NEXT " + on, x.of(0, 4) * 10 + x.of(0, 6), counts ? on * 10 + 2 - on : 2);
        }
        Peer peer = sending(7, 0);
        peer.frame(3 << 5, 0);
        BENCH.due("DATA, too", peer.x.of(1, 4) * 10 + peer.x.of(1, 6), 35);
        peer.next = 3;
        peer.goon();
        peer.due("the fourth part is sent first", "10 38 1 192 0 3 | 10 40 1 192 0 3 | 10 42 1 192 0 3 | 10 44 1 192 0 3"
            + " | 10 62 1 192 0 3");
    }

    private static void nothingOfTheFrame() {
        BENCH.sentence("else nothing of the FRAME counts)");
        for (int window = 1; window < 7; window++) {
            Peer peer = sending(window, 0);
            int far = window + 1 << 5;
            int data = peer.number << 1;
            BENCH.dueNothing("GOON with TURN", peer.x, 1, 11, 17 | far);
            BENCH.dueNothing("AGAIN with TURN", peer.x, 1, 11, 25 | far);
            BENCH.dueNothing("DATA with TURN", peer.x, 1, 11, data | 16 | far, 128, 1);
            BENCH.dueNothing("DATA that would be missed", peer.x, 1, 11, data + 2 & 15 | far, 128, 1);
        }
        Peer peer = new Peer(BENCH, 7);
        peer.frame(2 | 1 << 5, 0);
        peer.frame(16 | 7 << 5, 0);
        peer.goon();
        peer.due("nothing was missed", "10 17");
        BeamHouse x = Bench.linked(7);
        x.tick(0);
        x.take(0);
        BENCH.dueNothing("GOON with TURN for a first one", x, 0, 2, 17 | 1 << 5);
        BENCH.dueNothing("DATA with TURN for a first one", x, 0, 2, 16 | 7 << 5, 0);
    }

    private static void whatWasSentLast() {
        BENCH.sentence("than what was sent last;");
        Peer peer = new Peer(BENCH, 7);
        BENCH.dueNothing("nothing was sent", peer.x, 1, 11, 17 | 1 << 5);
        peer.data(false, ASKED);
        BENCH.dueNothing("what waits was not sent", peer.x, 1, 11, 17 | 1 << 5);
        peer.goon();
        peer.x.take(1);
        peer.frame(1 | 1 << 5);
        BENCH.due("it is there", peer.x.of(1, 4) * 10 + peer.x.of(1, 6), 10);
        BENCH.dueNothing("not one more", peer.x, 1, 11, 17 | 2 << 5);
        BENCH.dueNothing("an old one is seven farther on", peer.x, 1, 11, 17);
        Peer other = sending(4, 0);
        other.frame(1 | 2 << 5);
        BENCH.dueNothing("two of four are there: not three more", other.x, 1, 11, 17 | 5 << 5);
        other.frame(1 | 4 << 5);
        BENCH.due("but two more", other.x.of(1, 4) * 10 + other.x.of(1, 6), 44);
    }

    private static void takesItsNumber() {
        BENCH.sentence("DATA: if its number is TAKEN");
        for (int taken = 0; taken < 8; taken++) {
            for (int number = 0; number < 8; number++) {
                Peer peer = new Peer(BENCH, 7);
                for (int i = 0; i < taken; i++) {
                    peer.data(false, 0);
                }
                peer.frame(number << 1 | 16, 128, 9);
                int now = taken + (number == taken ? 1 : 0) & 7;
                BENCH.due("number " + number + " at " + taken, peer.x.of(1, 5), now);
                BENCH.due("its bytes go up", peer.x.of(1, 9), number == taken ? 1 : 0);
                peer.due("else it is missed", "10 " + ((number == taken ? 17 : 25) | now << 5));
            }
        }
    }

    private static void takes1To32Bytes() {
        BENCH.sentence("(and it has 1 to 32 bytes)");
        for (int n : new int[] {0, 1, 2, 31, 32, 33, 34, 69, 70}) {
            int[] part = new int[n];
            if (n > 0) {
                part[0] = 128 | 3;
            }
            boolean fits = n >= 1 && n <= 32;
            Peer peer = new Peer(BENCH, 7);
            peer.frame(16, part);
            BENCH.due(n + " bytes: taken", peer.x.of(1, 5), fits ? 1 : 0);
            BENCH.due(n + " bytes: credit", peer.x.of(1, 8), fits ? 7 : 4);
            peer.due(n + " bytes: the turn", "10 " + (fits ? 17 | 1 << 5 : 25));
            BeamHouse x = Bench.linked(7);
            x.tick(0);
            Bench.hearFrame(x, 0, Bench.join(new int[] {2, 16}, part));
            BENCH.due(n + " bytes for a first one", x.of(0, 5) * 10 + x.of(0, 15), fits ? 11 : 1);
        }
    }

    private static void takenGoesRound() {
        BENCH.sentence("TAKEN is 1 more, modulo 8, its bytes go UP; else it is MISSED.");
        Peer peer = new Peer(BENCH, 7);
        for (int i = 0; i < 20; i++) {
            BENCH.due("taken", peer.x.of(1, 5), i & 7);
            peer.data(true, 0);
            peer.due("goon with the next", "10 " + (17 | (i + 1 & 7) << 5));
        }
        peer.number = 3;
        peer.data(true, 1);
        BENCH.due("doubled: not taken again", peer.x.of(1, 5) * 10 + peer.x.of(1, 8), 44);
        peer.due("missed", "10 " + (25 | 4 << 5));
    }

    private static void hasTheTurn() {
        BENCH.sentence("With TURN: it has the TURN.");
        int[][] frames = {{2, 1}, {2, 9}, {2, 0, 0}, {2, 2, 0}, {2, 0}};
        for (int[] frame : frames) {
            BeamHouse x = Bench.linked(3);
            x.tick(0);
            x.take(0);
            Bench.hearFrame(x, 0, frame);
            BENCH.due("without: kind " + frame[1], x.of(0, 15), 0);
            Bench.hearFrame(x, 0, Bench.change(frame, 1, frame[1] | 16 | (x.of(0, 5) == 1 ? 2 : 0)));
            BENCH.due("with: kind " + frame[1], x.of(0, 15), 1);
            BENCH.dueAir("a first one does not use it before its tick", x, 0, "");
        }
    }

    private static void turnOfSecond() {
        BENCH.sentence("The TURN: SECOND, as soon as it has it");
        Peer peer = new Peer(BENCH, 3);
        peer.frame(1);
        peer.frame(9);
        peer.data(false, 0);
        peer.due("without TURN nothing is sent", "");
        peer.goon();
        BENCH.due("it has it no more", peer.x.of(1, 15), 0);
        peer.due("at once", "10 " + (17 | 1 << 5));
        peer.frame(25);
        peer.due("by AGAIN", "10 " + (17 | 1 << 5));
        peer.data(true, 0);
        peer.due("by DATA", "10 " + (17 | 2 << 5));
        BENCH.due("a tick sends nothing", peer.x.tick(1) * 100 + peer.x.of(1, 10), 400);
    }

    /** Of a first one of link 1 that puts "a" of 40 bytes 0: 31 and 19 bytes of its row. */
    private static String putOf40(int taken) {
        return "3 " + (taken << 5) + " 128 130 0 50 1 0 4 97 73 0 43" + " 0".repeat(21)
            + " | 3 " + (18 | taken << 5) + " 0" + " 0".repeat(19);
    }

    private static void turnOfFirst() {
        BENCH.sentence("FIRST with a tick: it sends, from SENT FROM on, its parts that wait");
        BeamHouse x = Bench.linked(2);
        BENCH.dueAir("not before", x, 0, "");
        x.store(0, 97, 1, 40, 0, 0);
        x.put(0, 97, 1);
        BENCH.dueAir("not before", x, 0, "");
        x.tick(0);
        String both = putOf40(0);
        BENCH.dueAir("two parts", x, 0, both);
        BENCH.due("they wait still", x.of(0, 6), 2);
        BENCH.due("it has it no more", x.of(0, 15), 0);
        Bench.hearFrame(x, 0, 2, 25);
        x.tick(0);
        BENCH.dueAir("none is known: both again", x, 0, both);
        Bench.hearFrame(x, 0, 2, 17 | 1 << 5);
        x.tick(0);
        BENCH.dueAir("one is known: the other one", x, 0, "3 18 0" + " 0".repeat(19));
        Bench.hearFrame(x, 0, 2, 17 | 2 << 5);
        x.tick(0);
        BENCH.dueAir("both are known", x, 0, "3 17");
    }

    private static void asManyAsTheWindow() {
        BENCH.sentence("as many as its WINDOW lets, as DATA, the last one with TURN;");
        for (int window = 1; window <= 7; window++) {
            for (int parts = 1; parts <= 8; parts++) {
                Peer peer = new Peer(BENCH, window);
                for (int i = 0; i < parts; i++) {
                    peer.data(false, ASKED);
                }
                peer.goon();
                StringBuilder due = new StringBuilder();
                int n = Math.min(window, parts);
                for (int i = 0; i < n; i++) {
                    int kind = i << 1 | (i == n - 1 ? 16 : 0) | (parts & 7) << 5;
                    due.append(i == 0 ? "" : " | ").append("10 ").append(kind).append(" 1 192 0 3");
                }
                peer.due(parts + " parts, window " + window, due.toString());
            }
        }
    }

    private static void againIfMissed() {
        BENCH.sentence("without any GOON with TURN (AGAIN, if something was MISSED since its latest TURN);");
        Peer peer = new Peer(BENCH, 7);
        peer.goon();
        peer.due("nothing was missed", "10 17");
        peer.frame(2 | 16, 0);
        peer.due("missed with the turn", "10 25");
        peer.goon();
        peer.due("told once", "10 17");
        peer.frame(2, 0);
        peer.frame(1);
        peer.due("missed: nothing before the turn", "");
        peer.goon();
        peer.due("missed before the turn", "10 25");
        peer.frame(2, 0);
        peer.data(true, 0);
        peer.due("missed, then one is taken", "10 " + (25 | 1 << 5));
        peer.data(true, 0);
        peer.due("told once", "10 " + (17 | 2 << 5));
    }

    private static void againOfFirst() {
        BENCH.sentence("AGAIN, if something was MISSED");
        BeamHouse x = Bench.linked(3);
        Bench.hearFrame(x, 0, 2, 2, 0);
        x.tick(0);
        BENCH.dueAir("missed before its first turn", x, 0, "3 25");
        Bench.hearFrame(x, 0, 2, 17);
        x.tick(0);
        BENCH.dueAir("told once", x, 0, "3 17");
        Bench.hearFrame(x, 0, 2, 2, 0);
        Bench.ticks(x, 0, 3);
        BENCH.dueAir("a poll is GOON", x, 0, "3 17");
        Bench.hearFrame(x, 0, 2, 17);
        x.tick(0);
        BENCH.dueAir("its turn is AGAIN", x, 0, "3 25");
    }

    private static void missedSinceItsLatestTurn() {
        BENCH.sentence("since its latest TURN");
        Peer peer = new Peer(BENCH, 7);
        peer.x.store(1, 97, 1, 1, 7, 0);
        peer.x.put(1, 97, 1);
        peer.frame(2 | 16, 0);
        peer.due("missed, but it has data", "10 16 0 130 0 11 1 0 4 97 73 0 4 7");
        peer.goon();
        peer.due("that was its turn", "10 17");
        BeamHouse x = Bench.linked(3);
        x.end(0);
        Bench.hearFrame(x, 0, 2, 2, 0);
        x.tick(0);
        BENCH.dueAir("missed, but it sends END", x, 0, "3 83");
        x.store(0, 97, 1, 0, 0, 0);
        x.put(0, 97, 1);
        Bench.hearFrame(x, 0, 2, 17);
        x.tick(0);
        BENCH.dueAir("DATA", x, 0, "3 16 0 130 0 10 1 0 4 97 73 0 3");
    }

    private static void nextIsTaken() {
        BENCH.sentence("all with NEXT its TAKEN. It has it no more.");
        for (int taken = 0; taken < 8; taken++) {
            BeamHouse x = Bench.linked(7);
            x.store(0, 97, 1, 40, 0, 0);
            for (int i = 0; i < taken; i++) {
                Bench.hearFrame(x, 0, 2, i << 1, 0);
            }
            x.put(0, 97, 1);
            x.tick(0);
            BENCH.dueAir("NEXT of DATA", x, 0, putOf40(taken));
            BENCH.due("the turn is given", x.of(0, 15), 0);
            Bench.ticks(x, 0, 3);
            BENCH.dueAir("NEXT of a poll", x, 0, "3 " + (17 | taken << 5));
            Bench.hearFrame(x, 0, 2, taken + 1 << 1 & 15 | 16 | 2 << 5, 0);
            x.tick(0);
            BENCH.dueAir("NEXT of AGAIN", x, 0, "3 " + (25 | taken << 5));
        }
    }

    /** Nothing of a link goes on in the next one. */
    private static void beginsAnew() {
        BENCH.sentence("0 at first), PARTS that wait");
        Peer peer = sending(7, 3);
        peer.frame(2, 9);
        peer.frame(83);
        peer.links();
        BENCH.due("numbers, parts", peer.x.of(1, 4) + peer.x.of(1, 5) + peer.x.of(1, 6), 0);
        BENCH.dueNothing("nothing was sent in this link", peer.x, 1, 11, 17 | 1 << 5);
        peer.goon();
        peer.due("nothing was missed in this link", "10 17");
        peer.data(true, ASKED);
        peer.due("numbers from 0 on", "10 " + (16 | 1 << 5) + " 1 192 0 3");
    }
}
