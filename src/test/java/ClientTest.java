/** OBJECTS of a CLIENT, and promises 14 (put) and 15 (get). */
public final class ClientTest {
    private static final Bench BENCH = new Bench("ClientTest");
    private static final String ONES = " 1".repeat(40);
    private static final long LONG_NAME = Bench.name("abcdefgh");

    public static void main(String[] args) {
        rowsOfPut();
        bodiesOfUpTo40();
        rowsOfGet();
        nextRowOfPut();
        withoutNextRow();
        nextRowOfGet();
        doneAt160();
        lastIsKept();
        failedBy();
        keptInItsStore();
        noRoomForIt();
        moreThan120();
        illAnswers();
        notWaitedFor();
        putAsItWas();
        asksOneBehindAnother();
        sizesGoOver();
        putsNot();
        putsWhileAnother();
        putsNoSuchObject();
        gets();
        getsNot();
        BENCH.ends();
    }

    private static Peer peer() {
        return new Peer(BENCH, 7);
    }

    private static void rowsOfPut() {
        BENCH.sentence("PUT: 2, the last one 130: the first row has NAME, all a BODY of up to 40 bytes (the last LAST).");
        Peer peer = peer();
        peer.x.store(1, LONG_NAME, 8, 81, 1, 0);
        peer.x.put(1, LONG_NAME, 8);
        peer.goon();
        peer.dueRows("the first row", "2 0 57 1 0 11 97 98 99 100 101 102 103 104 72 0 43" + ONES);
        peer.dueAnswer("the second row", "2 0 46 72 0 43" + ONES, 144, 0, 3);
        peer.dueAnswer("the last row", "130 0 7 73 0 4 1", 144, 0, 3);
        BENCH.due("on its way", peer.x.of(1, 14), 1);
        peer.dueAnswer("nothing more", "", 160, 0, 3);
        BENCH.due("done", peer.x.of(1, 14), 160);
    }

    private static void bodiesOfUpTo40() {
        BENCH.sentence("all a BODY of up to 40 bytes (the last LAST)");
        for (int size : new int[] {0, 1, 39, 40, 41, 80, 120}) {
            Peer peer = peer();
            peer.x.store(1, 97, 1, size, 1, 0);
            peer.x.put(1, 97, 1);
            peer.goon();
            boolean isLast = size <= 40;
            int n = Math.min(40, size);
            String row = (isLast ? 130 : 2) + " 0 " + (10 + n) + " 1 0 4 97 " + (isLast ? 73 : 72) + " 0 " + (3 + n);
            peer.dueRows("the first row of " + size, row + " 1".repeat(n));
            for (int left = size - 40; left > 0; left -= 40) {
                n = Math.min(40, left);
                row = (left <= 40 ? 130 : 2) + " 0 " + (6 + n) + " " + (left <= 40 ? 73 : 72) + " 0 " + (3 + n);
                peer.dueAnswer("the next row of " + size, row + " 1".repeat(n), 144, 0, 3);
            }
            peer.dueAnswer("no more rows of " + size, "", 144, 0, 3);
        }
    }

    private static void rowsOfGet() {
        BENCH.sentence("GET: 131 with NAME, then 131 without.");
        Peer peer = peer();
        peer.x.get(1, Bench.name("xy"), 2);
        peer.goon();
        peer.dueRows("the first row", "131 0 8 1 0 5 120 121");
        peer.dueAnswer("the next row", "131 0 3", 144, 0, 8, 72, 0, 5, 7, 8);
        peer.dueAnswer("the next row", "131 0 3", 144, 0, 7, 72, 0, 4, 9);
        peer.dueAnswer("no more rows", "", 160, 0, 7, 73, 0, 4, 10);
        BENCH.due("done", peer.x.of(1, 14), 160);
        for (int i = 0; i < 4; i++) {
            BENCH.due("its bytes", peer.x.octet(1, Bench.name("xy"), 2, i), 7 + i);
        }
        Peer other = peer();
        other.x.get(1, LONG_NAME, 8);
        other.goon();
        other.dueRows("a NAME of 8", "131 0 14 1 0 11 97 98 99 100 101 102 103 104");
    }

    /** A client that has put "a" of so many bytes, or asked for it. */
    private static Peer asked(boolean isGet, int size) {
        Peer peer = peer();
        peer.x.store(1, 97, 1, size, 1, 0);
        BENCH.due("asked", isGet ? peer.x.get(1, 97, 1) : peer.x.put(1, 97, 1), 1);
        peer.goon();
        peer.takes();
        return peer;
    }

    private static int statusBehind(Peer peer, int... answer) {
        peer.row(false, answer);
        return peer.x.of(1, 14);
    }

    private static void nextRowOfPut() {
        BENCH.sentence("To the CLIENT: 144: PUT: the next row");
        Peer peer = asked(false, 41);
        peer.dueAnswer("144", "130 0 7 73 0 4 1", 144, 0, 3);
        BENCH.due("on its way", peer.x.of(1, 14), 1);
        Peer other = asked(false, 41);
        other.dueAnswer("144 with headers, too", "130 0 7 73 0 4 1", 144, 0, 13, 1, 0, 4, 98, 72, 0, 3, 73, 0, 3);
    }

    private static void withoutNextRow() {
        BENCH.sentence("(without one: FAILED, 144)");
        for (int size : new int[] {0, 1, 40}) {
            Peer peer = asked(false, size);
            peer.dueAnswer("no row of " + size + " is left", "", 144, 0, 3);
            BENCH.due("failed", peer.x.of(1, 14), 144);
            BENCH.due("160 does not matter then", statusBehind(peer, 160, 0, 3), 144);
            BENCH.due("it may ask again", peer.x.put(1, 97, 1), 1);
        }
        Peer peer = asked(false, 80);
        BENCH.due("one row is left", statusBehind(peer, 144, 0, 3), 1);
        BENCH.due("none is left", statusBehind(peer, 144, 0, 3), 144);
    }

    private static void nextRowOfGet() {
        BENCH.sentence("GET: BODY is kept, the next 131;");
        Peer peer = asked(true, 5);
        peer.dueAnswer("BODY is kept, LAST is not", "131 0 3", 144, 0, 12, 72, 0, 4, 1, 73, 0, 5, 8, 9);
        peer.dueAnswer("without BODY", "131 0 3", 144, 0, 3);
        peer.dueAnswer("an empty BODY", "131 0 3", 144, 0, 6, 72, 0, 3);
        BENCH.due("not yet in its store", peer.x.size(1, 97, 1), 5);
        BENCH.due("done", statusBehind(peer, 160, 0, 12, 72, 0, 5, 2, 2, 73, 0, 4, 6), 160);
        BENCH.due("one of BODY, one of LAST", peer.x.size(1, 97, 1), 2);
        BENCH.due("1 and 6", peer.x.octet(1, 97, 1, 0) * 10 + peer.x.octet(1, 97, 1, 1), 16);
    }

    private static void doneAt160() {
        BENCH.sentence("160: DONE");
        BENCH.due("the last row was sent", statusBehind(asked(false, 40), 160, 0, 3), 160);
        BENCH.due("rows are left", statusBehind(asked(false, 41), 160, 0, 3), 160);
        Peer peer = asked(false, 41);
        peer.dueAnswer("they do not go any more", "", 160, 0, 3);
        peer.dueAnswer("not by 144, either", "", 144, 0, 3);
        BENCH.due("its object stays", peer.x.size(1, 97, 1), 41);
    }

    private static void lastIsKept() {
        BENCH.sentence("(GET: LAST is kept)");
        Peer peer = asked(true, 5);
        BENCH.due("LAST alone", statusBehind(peer, 160, 0, 8, 73, 0, 5, 7, 8), 160);
        BENCH.due("its bytes", peer.x.size(1, 97, 1) * 100 + peer.x.octet(1, 97, 1, 0) * 10 + peer.x.octet(1, 97, 1, 1), 278);
        Peer empty = asked(true, 5);
        BENCH.due("an empty LAST", statusBehind(empty, 160, 0, 6, 73, 0, 3), 160);
        BENCH.due("no bytes", empty.x.size(1, 97, 1), 0);
        Peer none = asked(true, 5);
        BENCH.due("without LAST", statusBehind(none, 160, 0, 7, 72, 0, 4, 1), 160);
        BENCH.due("no bytes", none.x.size(1, 97, 1), 0);
    }

    private static void failedBy() {
        BENCH.sentence("others: FAILED, that code.");
        for (int code : new int[] {192, 196, 205}) {
            for (int k = 0; k < 2; k++) {
                Peer peer = asked(k == 1, 41);
                BENCH.due("failed", statusBehind(peer, code, 0, 7, 73, 0, 4, 9), code);
                BENCH.due("its object stays", peer.x.size(1, 97, 1), 41);
                peer.dueAnswer("no more rows", "", 144, 0, 3);
                BENCH.due("it is over", peer.x.of(1, 14), code);
                BENCH.due("it may ask again", peer.x.get(1, 97, 1), 1);
            }
        }
        BENCH.due("a row that asks is none", statusBehind(asked(false, 41), 131, 0, 3), 1);
    }

    private static void keptInItsStore() {
        BENCH.sentence("An OBJECT that came by get() is the CLIENT's STORE's, too (in place of one of that NAME);");
        Peer peer = peer();
        for (int i = 0; i < 6; i++) {
            peer.x.store(1, 65 + i, 1, 9, 1, 1);
        }
        peer.x.get(1, 66, 1);
        BENCH.due("done", statusBehind(peer, 160, 0, 8, 73, 0, 5, 1, 2), 160);
        BENCH.due("in place of one", peer.x.size(1, 66, 1) * 10 + peer.x.of(1, 13), 26);
        Peer other = peer();
        other.x.get(1, 66, 1);
        BENCH.due("done", statusBehind(other, 160, 0, 7, 73, 0, 4, 1), 160);
        BENCH.due("a new one", other.x.size(1, 66, 1) * 10 + other.x.of(1, 13), 11);
    }

    private static void noRoomForIt() {
        BENCH.sentence("(in place of one of that NAME); no room");
        Peer peer = peer();
        for (int i = 0; i < 6; i++) {
            peer.x.store(1, 65 + i, 1, 9, 1, 1);
        }
        peer.x.get(1, 97, 1);
        BENCH.due("no room", statusBehind(peer, 160, 0, 7, 73, 0, 4, 1), 205);
        BENCH.due("it is not there", peer.x.size(1, 97, 1) * 10 + peer.x.of(1, 13), -4);
        BENCH.due("it may ask again", peer.x.get(1, 97, 1), 1);
    }

    /** 24 bytes five times, and so many more. */
    private static void moreThan120() {
        BENCH.sentence("no room, more than 120 bytes: FAILED, 205.");
        for (int more = 0; more <= 1; more++) {
            Peer peer = asked(true, 7);
            int[] row = new int[30];
            System.arraycopy(new int[] {144, 0, 30, 72, 0, 27}, 0, row, 0, 6);
            for (int i = 0; i < 5; i++) {
                peer.row(true, row);
                peer.takes();
                BENCH.due("on its way", peer.x.of(1, 14), 1);
            }
            int due = more == 0 ? 160 : 205;
            int[] last = more == 0 ? new int[] {160, 0, 6, 73, 0, 3} : new int[] {160, 0, 7, 73, 0, 4, 9};
            BENCH.due(120 + more + " bytes", statusBehind(peer, last), due);
            BENCH.due("the one that was stays, if it is too long", peer.x.size(1, 97, 1), more == 0 ? 120 : 7);
        }
    }

    private static void illAnswers() {
        BENCH.sentence("(one that is ill, or for which a CLIENT does not wait, is nothing)");
        int[][] ill = {{160}, {160, 0}, {160, 0, 2}, {160, 0, 4}, {160, 1, 3}, {160, 0, 6, 74, 0, 3}, {160, 0, 4, 73},
            {160, 0, 6, 73, 0, 2}, {160, 0, 6, 73, 0, 4}, {160, 0, 6, 1, 0, 3}, {160, 0, 7, 1, 0, 4, 0}, {144, 0, 4},
            {196, 0, 4}};
        for (int[] answer : ill) {
            for (int k = 0; k < 2; k++) {
                Peer peer = asked(k == 1, 41);
                peer.dueAnswer("no row goes behind " + Bench.text(answer), "", answer);
                BENCH.due("on its way still", peer.x.of(1, 14), 1);
                BENCH.due("one that is well counts", statusBehind(peer, 160, 0, 7, 1, 0, 4, 97), 160);
            }
        }
    }

    private static void notWaitedFor() {
        BENCH.sentence("or for which a CLIENT does not wait, is nothing)");
        Peer peer = peer();
        BENCH.due("nothing was asked", statusBehind(peer, 160, 0, 7, 73, 0, 4, 9), 0);
        BENCH.due("no object came", peer.x.of(1, 13), 0);
        Peer done = asked(true, 5);
        statusBehind(done, 160, 0, 7, 73, 0, 4, 1);
        BENCH.due("it is done", statusBehind(done, 196, 0, 3), 160);
        BENCH.due("it is done", statusBehind(done, 160, 0, 8, 73, 0, 5, 8, 8), 160);
        BENCH.due("its object stays", done.x.size(1, 97, 1), 1);
    }

    private static void putAsItWas() {
        BENCH.sentence("PUT of an OBJECT of a DEVICE to the other one: 1.");
        BeamHouse x = Bench.linked(7);
        x.store(0, 97, 1, 120, 1, 0);
        BENCH.due("put", x.put(0, 97, 1), 1);
        Bench.go(x, 1);
        x.store(0, 97, 1, 50, 2, 0);
        Bench.go(x, 4);
        BENCH.due("as it was at put()", x.size(1, 97, 1) * 10 + x.octet(1, 97, 1, 119), 1201);
        BENCH.due("put by the second one", x.put(1, 97, 1), 1);
        Bench.go(x, 9);
        BENCH.due("done", x.of(1, 14) * 1000 + x.size(0, 97, 1), 160120);
    }

    /** Nothing of what was asked before goes into the next. */
    private static void asksOneBehindAnother() {
        BENCH.sentence("PUT of an OBJECT of a DEVICE to the other one: 1.");
        Peer peer = asked(false, 41);
        statusBehind(peer, 144, 0, 3);
        statusBehind(peer, 160, 0, 3);
        peer.goon();
        peer.takes();
        peer.x.store(1, 98, 1, 1, 2, 0);
        peer.x.put(1, 98, 1);
        peer.goon();
        peer.dueRows("put behind put", "130 0 11 1 0 4 98 73 0 4 2");
        statusBehind(peer, 160, 0, 3);
        peer.x.get(1, 99, 1);
        statusBehind(peer, 144, 0, 7, 72, 0, 4, 3);
        statusBehind(peer, 196, 0, 3);
        peer.x.get(1, 99, 1);
        BENCH.due("get behind get", statusBehind(peer, 160, 0, 7, 73, 0, 4, 4), 160);
        BENCH.due("what came before is not in it", peer.x.size(1, 99, 1) * 10 + peer.x.octet(1, 99, 1, 0), 14);
        peer.x.put(1, 99, 1);
        BENCH.due("put behind get: 144 is no BODY to keep", statusBehind(peer, 144, 0, 3), 144);
    }

    private static void sizesGoOver() {
        BENCH.sentence("CLIENT: the one that was asked by put(), get(); SERVER: the other one.");
        for (int size : new int[] {0, 1, 39, 40, 41, 79, 80, 81, 119, 120}) {
            for (int n = 1; n <= 8; n += 7) {
                BeamHouse x = Bench.linked(4);
                x.store(0, LONG_NAME, n, size, size, 3);
                x.put(0, LONG_NAME, n);
                Bench.go(x, 12);
                BENCH.due("put of " + size, x.of(0, 14), 160);
                x.store(0, LONG_NAME, n, 1, 1, 1);
                x.get(0, LONG_NAME, n);
                Bench.go(x, 12);
                BENCH.due("get of " + size, x.of(0, 14), 160);
                BENCH.due("one object", x.of(0, 13) + x.of(1, 13), 2);
                for (int d = 0; d < 2; d++) {
                    BENCH.due("size", x.size(d, LONG_NAME, n), size);
                    for (int i = 0; i < size; i++) {
                        BENCH.due("octet", x.octet(d, LONG_NAME, n, i), i * 3 + size & 255);
                    }
                }
            }
        }
    }

    private static void putsNot() {
        BENCH.sentence("-1; -2 not FIRST or SECOND, or it asked for one that is not over;");
        BeamHouse x = new BeamHouse();
        BENCH.due("put(-1), put(4)", x.put(-1, 97, 1) + x.put(4, 97, 0), -2);
        for (int state = 0; state <= 4; state++) {
            BeamHouse y = Bench.inState(state);
            y.store(0, 97, 1, 5, 0, 0);
            BENCH.due("no such object in state " + state, y.put(0, 98, 1), state < 3 ? -2 : -4);
            BENCH.due("in state " + state, y.put(0, 97, 1), state < 3 ? -2 : 1);
            BENCH.due("asked, parts", y.of(0, 14) * 10 + y.of(0, 6), state < 3 ? 0 : 11);
        }
    }

    private static void putsWhileAnother() {
        BENCH.sentence("or it asked for one that is not over;");
        BeamHouse x = Bench.linked(3);
        x.store(0, 97, 1, 41, 0, 0);
        BENCH.due("put", x.put(0, 97, 1), 1);
        BENCH.due("put while put", x.put(0, 97, 1) + x.put(0, 98, 1), -4);
        BENCH.due("get while put", x.get(0, 97, 1) + x.get(0, 97, 0), -4);
        BENCH.due("no rows more", x.of(0, 6) * 10 + x.of(0, 7), 20);
        BENCH.due("the other one may", x.get(1, 98, 1), 1);
        BENCH.due("put while get", x.put(1, 97, 1), -2);
        Bench.go(x, 9);
        BENCH.due("over", x.of(0, 14) * 1000 + x.of(1, 14), 160196);
        BENCH.due("then both may", x.put(0, 97, 1) + x.put(1, 97, 1), 2);
    }

    private static void putsNoSuchObject() {
        BENCH.sentence("-4 no such OBJECT (NAME as told).");
        BeamHouse x = Bench.linked(3);
        BENCH.due("an empty store", x.put(0, 97, 1), -4);
        x.store(0, 97, 1, 5, 0, 0);
        x.store(1, 98, 1, 5, 0, 0);
        BENCH.due("the other one's", x.put(0, 98, 1), -4);
        for (int n : new int[] {0, -1, 2, 9, Integer.MIN_VALUE, Integer.MAX_VALUE}) {
            BENCH.due("n " + n, x.put(0, 97, n), -4);
        }
        BENCH.due("a byte 0", x.put(0, 0, 1), -4);
        BENCH.due("nothing yet", x.of(0, 14) + x.of(0, 6), 0);
        BENCH.due("by its lowest byte", x.put(0, 0x6261, 1), 1);
    }

    private static void gets() {
        BENCH.sentence("GET: 1. -1; -2; -4 a NAME that may not be.");
        BeamHouse x = Bench.linked(3);
        BENCH.due("get(-1), get(4)", x.get(-1, 97, 1) + x.get(4, 97, 0), -2);
        for (int n : new int[] {0, -1, 2, 9, Integer.MIN_VALUE, Integer.MAX_VALUE}) {
            BENCH.due("n " + n, x.get(0, 97, n), -4);
        }
        for (int k = 0; k < 8; k++) {
            BENCH.due("a byte 0 at " + k, x.get(0, LONG_NAME & ~(255L << 8 * k), 8), -4);
        }
        BENCH.due("nothing yet", x.of(0, 14) + x.of(0, 6), 0);
        BENCH.due("a NAME of 8", x.get(0, LONG_NAME, 8), 1);
        BENCH.due("on its way", x.of(0, 14) * 10 + x.of(0, 6), 11);
        BENCH.due("a NAME of 1", x.get(1, 255, 1), 1);
    }

    private static void getsNot() {
        BENCH.sentence("GET: 1. -1; -2;");
        for (int state = 0; state <= 4; state++) {
            BeamHouse y = Bench.inState(state);
            BENCH.due("no name in state " + state, y.get(0, 97, 0), state < 3 ? -2 : -4);
            BENCH.due("in state " + state, y.get(0, 97, 1), state < 3 ? -2 : 1);
            BENCH.due("asked, parts", y.of(0, 14) * 10 + y.of(0, 6), state < 3 ? 0 : 11);
            BENCH.due("again in state " + state, y.get(0, 97, 1), -2);
        }
    }
}
