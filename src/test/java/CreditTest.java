/** Rows in parts by credits, as of() (18) and the air tell it; and that put and get (14, 15) go by them. */
public final class CreditTest {
    private static final Bench BENCH = new Bench("CreditTest");

    public static void main(String[] args) {
        parts();
        creditIsTold();
        creditWithoutRow();
        notLet();
        partsWithoutBytes();
        rowsWait();
        rowTooMany();
        partsAreFull();
        longRows();
        bothAtOnce();
        BENCH.ends();
    }

    private static void state(String when, BeamHouse x, int d, int parts, int rows, int credit, int owed) {
        BENCH.due(when + ": parts", x.of(d, 6), parts);
        BENCH.due(when + ": rows", x.of(d, 7), rows);
        BENCH.due(when + ": credit", x.of(d, 8), credit);
        BENCH.due(when + ": owed", x.of(d, 9), owed);
    }

    /** A row of 31 bytes is one part, one of 32 is two. */
    private static void parts() {
        for (int size = 18; size <= 24; size++) {
            BeamHouse x = Bench.linked(7);
            x.store(0, 97, 1, size, 1, 1);
            x.put(0, 97, 1);
            int row = 3 + 4 + 3 + size;
            state("a row of " + row, x, 0, row <= 31 ? 1 : 2, 0, row <= 31 ? 3 : 2, 0);
            x.tick(0);
            int[] first = Bench.sent(x, 0).get(0);
            BENCH.due("MORE", first[2], row <= 31 ? 0 : 128);
            BENCH.due("its bytes", first.length - 3, Math.min(31, row));
        }
    }

    private static void creditIsTold() {
        Peer peer = new Peer(7);
        peer.data(false, 128 | 5, 131);
        state("one taken", peer.x, 1, 0, 0, 9, 1);
        peer.data(false, 128, 0);
        state("two taken", peer.x, 1, 0, 0, 9, 2);
        peer.data(true, 0, 3);
        state("three taken: the answer tells it", peer.x, 1, 1, 0, 8, 0);
        BENCH.due("the answer", peer.takes(), "10 112 3 192 0 3");
    }

    private static void creditWithoutRow() {
        Peer peer = new Peer(7);
        peer.data(false, 128, 131, 0);
        peer.data(false, 128, 20);
        state("two taken", peer.x, 1, 0, 0, 4, 2);
        peer.data(true, 128, 1);
        BENCH.due("three taken: a part without bytes", peer.takes(), "10 112 3");
        state("told", peer.x, 1, 1, 0, 4, 0);
        peer.data(true, 128, 1);
        state("one more", peer.x, 1, 0, 0, 4, 1);
        peer.data(false, 127);
        state("a part without bytes is not owed", peer.x, 1, 0, 0, 131, 1);
    }

    /** Only four parts with bytes are let at first; with its credit a fifth one is nothing. */
    private static void notLet() {
        Peer peer = new Peer(7);
        peer.x.store(1, 97, 1, 40, 0, 0);
        for (int i = 0; i < 24; i++) {
            fill(peer, i);
        }
        BENCH.due("parts are full", peer.x.of(1, 6), 24);
        int credit = peer.x.of(1, 8);
        for (int i = 0; i < 4; i++) {
            peer.data(false, 128, 9);
            BENCH.due("owed", peer.x.of(1, 9), i + 1);
        }
        int taken = peer.x.of(1, 5);
        peer.data(false, 128 | 3, 9);
        BENCH.due("a fifth one: owed", peer.x.of(1, 9), 4);
        BENCH.due("a fifth one: credit", peer.x.of(1, 8), credit);
        BENCH.due("the frame is taken", peer.x.of(1, 5), taken + 1 & 7);
        peer.data(false, 3);
        BENCH.due("without bytes it is let", peer.x.of(1, 8), credit + 3);
    }

    /** Rows of 192 till 24 parts wait, none of them known to be there. */
    private static void fill(Peer peer, int i) {
        peer.data(false, 2, 131, 0, 3);
        BENCH.due("parts", peer.x.of(1, 6), i + 1);
    }

    private static void partsWithoutBytes() {
        Peer peer = new Peer(7);
        peer.data(false, 128, 131, 0);
        peer.data(false, 0);
        peer.data(false, 128);
        BENCH.due("they do not end a row", peer.x.of(1, 6), 0);
        peer.data(true, 0, 3);
        BENCH.due("the row goes on", peer.takes(), "10 " + (16 | 4 << 5) + " 2 192 0 3");
        peer.data(false, 128);
        peer.data(true, 0, 131, 0, 3);
        BENCH.due("nor begin one", peer.takes(), "10 " + (18 | 6 << 5) + " 1 192 0 3");
    }

    private static void rowsWait() {
        Peer peer = new Peer(7);
        for (int i = 0; i < 4; i++) {
            peer.data(false, 0, 131, 0, 3);
        }
        state("four answers", peer.x, 1, 4, 0, 0, 0);
        peer.data(false, 0, 131, 0, 3);
        peer.data(false, 0, 131, 0, 3);
        state("no credit: they wait", peer.x, 1, 4, 2, 0, 2);
        peer.data(false, 0, 131, 0, 3);
        state("three owed: a part without bytes", peer.x, 1, 5, 3, 0, 0);
        peer.data(false, 1);
        state("a credit: one goes", peer.x, 1, 6, 2, 0, 0);
        peer.data(false, 5);
        state("five credits: both go", peer.x, 1, 8, 0, 3, 0);
        peer.goon();
        java.util.List<int[]> frames = Bench.sent(peer.x, 1);
        String credits = "";
        for (int[] frame : frames) {
            credits += " " + frame[2] + ":" + (frame.length - 3);
        }
        BENCH.due("what they tell", credits, " 1:3 1:3 1:3 1:3 3:0 0:3 0:3");
        Peer other = new Peer(7);
        other.x.store(1, 97, 1, 40, 0, 0);
        for (int i = 0; i < 3; i++) {
            other.data(false, 0, 131, 0, 3);
        }
        other.x.put(1, 97, 1);
        state("one credit for two parts", other.x, 1, 4, 1, 0, 0);
        other.data(false, 1);
        state("the rest goes", other.x, 1, 5, 0, 0, 0);
    }

    /** Eight rows may wait; what answers the ninth is lost. */
    private static void rowTooMany() {
        Peer peer = new Peer(7);
        for (int i = 0; i < 4; i++) {
            peer.data(false, 0, 131, 0, 3);
        }
        for (int i = 1; i <= 10; i++) {
            peer.data(false, 0, 131, 0, 3);
            BENCH.due("rows", peer.x.of(1, 7), Math.min(8, i));
        }
        BENCH.due("parts: 4, and credit thrice", peer.x.of(1, 6), 7);
        peer.x.store(1, 97, 1, 1, 0, 0);
        BENCH.due("put", peer.x.put(1, 97, 1), 1);
        BENCH.due("rows", peer.x.of(1, 7), 8);
        peer.data(false, 20);
        state("all that waited goes", peer.x, 1, 15, 0, 12, 0);
        BENCH.due("the put is lost, but on its way", peer.x.of(1, 14), 1);
        Peer last = new Peer(7);
        for (int i = 0; i < 12; i++) {
            last.data(false, 0, 131, 0, 3);
        }
        BENCH.due("eight wait", last.x.of(1, 7), 8);
        last.data(false, 1, 131, 0, 3);
        BENCH.due("a credit makes a place for the answer", last.x.of(1, 7), 8);
    }

    private static void partsAreFull() {
        Peer peer = new Peer(7);
        for (int i = 0; i < 24; i++) {
            fill(peer, i);
        }
        int credit = peer.x.of(1, 8);
        peer.data(false, 0, 131, 0, 3);
        peer.data(false, 0, 131, 0, 3);
        peer.data(false, 0, 131, 0, 3);
        state("no room for parts", peer.x, 1, 24, 3, credit, 3);
        peer.goon();
        Bench.sent(peer.x, 1);
        peer.frame(1 | 2 << 5);
        state("room for two", peer.x, 1, 24, 1, credit - 2, 0);
        peer.frame(1 | 7 << 5);
        state("room for all", peer.x, 1, 20, 0, credit - 3, 0);
        fullAndOwed();
    }

    /** The room that a frame's NEXT makes is used before its data goes up: so the data is let. */
    private static void fullAndOwed() {
        Peer peer = new Peer(7);
        for (int i = 0; i < 24; i++) {
            fill(peer, i);
        }
        for (int i = 0; i < 4; i++) {
            peer.data(false, 0, 131, 0, 3);
        }
        BENCH.due("none is let", peer.x.of(1, 9), 4);
        peer.goon();
        Bench.sent(peer.x, 1);
        peer.next = 1;
        peer.data(false, 128, 131);
        BENCH.due("a part told four", peer.x.of(1, 9) * 100 + peer.x.of(1, 6), 124);
    }

    private static void longRows() {
        Peer peer = new Peer(7);
        int[] part = new int[32];
        part[0] = 128;
        int[] sixty = new int[61];
        peer.data(false, part);
        peer.data(true, java.util.Arrays.copyOf(sixty, 30));
        BENCH.due("60 bytes come whole", peer.takes(), "10 " + (16 | 2 << 5) + " 2 192 0 3");
        peer.data(false, part);
        peer.data(true, java.util.Arrays.copyOf(sixty, 31));
        BENCH.due("61 bytes are nothing", peer.takes(), "10 " + (17 | 4 << 5));
        BENCH.due("but owed", peer.x.of(1, 9), 2);
        peer.data(true, 0, 131, 0, 3);
        BENCH.due("the next row", peer.takes(), "10 " + (18 | 5 << 5) + " 3 192 0 3");
        for (int i = 0; i < 6; i++) {
            peer.data(true, part);
            peer.takes();
        }
        peer.data(true, 0, 131, 0, 3);
        BENCH.due("its end is nothing, too", peer.takes(), "10 " + (17 | 4 << 5));
        peer.data(true, 0, 131, 0, 3);
        BENCH.due("then rows come again", peer.takes(), "10 " + (16 | 4 << 1 | 5 << 5) + " 2 192 0 3");
    }

    /** Both put and get at once, and both are done. */
    private static void bothAtOnce() {
        for (int window = 1; window <= 7; window++) {
            BeamHouse x = Bench.linked(window);
            x.store(0, 97, 1, 120, 3, 5);
            x.store(1, 98, 1, 119, 9, 7);
            x.store(1, 99, 1, 118, 1, 1);
            x.put(0, 97, 1);
            x.put(1, 98, 1);
            for (int i = 0; i < 40; i++) {
                Bench.go(x, 1);
                BENCH.due("credit and owed", x.of(0, 8) <= 4 && x.of(1, 8) <= 4 ? 1 : 0, 1);
                BENCH.due("owed", x.of(0, 9) < 3 && x.of(1, 9) < 3 ? 1 : 0, 1);
            }
            BENCH.due("both are done", x.of(0, 14) + x.of(1, 14), 320);
            x.get(0, 99, 1);
            x.get(1, 97, 1);
            Bench.go(x, 40);
            BENCH.due("both are done", x.of(0, 14) + x.of(1, 14), 320);
            for (int i = 0; i < 120; i++) {
                BENCH.due("a", x.octet(1, 97, 1, i), i * 5 + 3 & 255);
                BENCH.due("b", x.octet(0, 98, 1, i), i < 119 ? i * 7 + 9 & 255 : -1);
                BENCH.due("c", x.octet(0, 99, 1, i), i < 118 ? i + 1 & 255 : -1);
            }
            BENCH.due("nothing is left", x.of(0, 6) + x.of(1, 6) + x.of(0, 7) + x.of(1, 7), 0);
            BENCH.due("all credit is there or owed", x.of(0, 8) + x.of(1, 9), 4);
            BENCH.due("all credit is there or owed", x.of(1, 8) + x.of(0, 9), 4);
        }
    }
}
