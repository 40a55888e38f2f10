import java.util.Arrays;

/** UP: rows in parts, CREDIT and OWED, as of() (18) and the air tell it; put and get (14, 15) go by them. */
public final class UpTest {
    private static final Bench BENCH = new Bench("UpTest");
    private static final int[] ASKED = {131, 0, 3};

    public static void main(String[] args) {
        partsOf31();
        creditBits();
        fourAtFirst();
        takesOne();
        notBeingLet();
        owedIsTold();
        withoutBytes();
        rowsWait();
        rowTooMany();
        roomForTheAnswer();
        lostPut();
        asSoonAsCredit();
        partsAreFull();
        asSoonAsRoom();
        lastOnes();
        owedThree();
        owedThreeWithoutRoom();
        rowsOfOneTo60();
        longerThan60();
        bothAtOnce();
        BENCH.ends();
    }

    private static void due(String when, Peer peer, int parts, int rows, int credit, int owed) {
        int[] got = {peer.x.of(peer.d, 6), peer.x.of(peer.d, 7), peer.x.of(peer.d, 8), peer.x.of(peer.d, 9)};
        BENCH.due(when + ": parts, rows, credit, owed", Bench.text(got), Bench.text(parts, rows, credit, owed));
    }

    /** Says a row of three bytes that is answered by one of three bytes, with that credit. */
    private static void asks(Peer peer, int credit) {
        peer.data(false, Bench.join(new int[] {credit}, ASKED));
    }

    /** Half a row, that nothing answers: it is owed. */
    private static void half(Peer peer, int credit) {
        peer.data(false, 128 | credit, 9);
    }

    private static void partsOf31() {
        BENCH.sentence("each part is a byte (bit 7 MORE, lowest seven CREDIT) and 0 to 31 bytes of a row.");
        for (int size = 0; size <= 40; size++) {
            Peer peer = Peer.ofFirst(BENCH, 7);
            peer.x.store(0, 97, 1, size, 1, 0);
            peer.x.put(0, 97, 1);
            int row = 3 + 4 + 3 + size;
            boolean isOne = row <= 31;
            due("a row of " + row, peer, isOne ? 1 : 2, 0, isOne ? 3 : 2, 0);
            peer.x.tick(0);
            String head = " 130 0 " + row + " 1 0 4 97 73 0 " + (size + 3) + " 1".repeat(Math.min(21, size));
            peer.due("its parts", isOne ? "3 16 0" + head : "3 0 128" + head + " | 3 18 0" + " 1".repeat(row - 31));
        }
    }

    private static void creditBits() {
        BENCH.sentence("(bit 7 MORE, lowest seven CREDIT)");
        for (int credit : new int[] {0, 1, 63, 64, 126, 127}) {
            Peer peer = new Peer(BENCH, 7);
            peer.data(false, credit);
            due("without bytes, " + credit, peer, 0, 0, 4 + credit, 0);
            peer.data(false, 128 | credit);
            due("without bytes, with MORE, " + credit, peer, 0, 0, 4 + 2 * credit, 0);
            half(peer, credit);
            due("with MORE, " + credit, peer, 0, 0, 4 + 3 * credit, 1);
            peer.data(false, credit, 3);
            due("without MORE, " + credit, peer, 1, 0, 4 + 4 * credit - 1, 0);
        }
    }

    private static void fourAtFirst() {
        BENCH.sentence("how many parts with bytes the other may send still: 4 at first, both ways;");
        for (Peer peer : new Peer[] {new Peer(BENCH, 7), Peer.ofFirst(BENCH, 7)}) {
            due("at first", peer, 0, 0, 4, 0);
            for (int i = 1; i <= 5; i++) {
                asks(peer, 0);
                due("answer " + i, peer, Math.min(4, i), i > 4 ? 1 : 0, Math.max(0, 4 - i), i > 4 ? 1 : 0);
            }
        }
    }

    private static void takesOne() {
        BENCH.sentence("a part with bytes takes 1");
        Peer peer = new Peer(BENCH, 7);
        peer.x.store(1, 97, 1, 40, 0, 0);
        peer.x.put(1, 97, 1);
        due("two parts of a row", peer, 2, 0, 2, 0);
        half(peer, 0);
        half(peer, 0);
        half(peer, 0);
        due("one without bytes takes none", peer, 3, 0, 2, 0);
        peer.goon();
        peer.x.take(1);
        peer.goon();
        peer.x.take(1);
        due("nor does a part that is sent again", peer, 3, 0, 2, 0);
    }

    /** Device 1 has 24 parts that wait, and owes nothing. */
    private static Peer full() {
        Peer peer = new Peer(BENCH, 7);
        for (int i = 0; i < 24; i++) {
            asks(peer, 2);
        }
        due("24 parts", peer, 24, 0, 4 + 24, 0);
        return peer;
    }

    private static void notBeingLet() {
        BENCH.sentence("(one that comes without being let: it is nothing, its CREDIT, too)");
        Peer peer = full();
        for (int i = 1; i <= 4; i++) {
            half(peer, 0);
            due("let", peer, 24, 0, 28, i);
        }
        int taken = peer.x.of(1, 5);
        half(peer, 3);
        due("a fifth one", peer, 24, 0, 28, 4);
        BENCH.due("its frame is taken", peer.x.of(1, 5), taken + 1 & 7);
        peer.data(false, 3, 9);
        due("nor does it end the row", peer, 24, 0, 28, 4);
        peer.data(false, 3);
        due("one without bytes is let", peer, 24, 0, 31, 4);
        peer.goon();
        peer.takes();
        peer.goon();
        due("four are told", peer, 18, 0, 31, 0);
        peer.data(false, 0, 3);
        due("the row has five bytes: 192 answers it", peer, 19, 0, 30, 0);
    }

    private static void owedIsTold() {
        BENCH.sentence("OWED are those taken since it told CREDIT last.");
        Peer peer = new Peer(BENCH, 7);
        peer.data(false, 128, 131);
        due("one taken", peer, 0, 0, 4, 1);
        peer.data(false, 0);
        due("without bytes: none", peer, 0, 0, 4, 1);
        peer.data(false, 128, 0);
        due("two taken", peer, 0, 0, 4, 2);
        peer.data(true, 0, 3);
        due("three taken: the answer tells it", peer, 1, 0, 3, 0);
        peer.due("so it does", "10 " + (16 | 4 << 5) + " 3 192 0 3");
        peer.x.get(1, 97, 1);
        peer.goon();
        peer.due("nothing is owed", "10 " + (18 | 4 << 5) + " 0 131 0 7 1 0 4 97");
    }

    private static void withoutBytes() {
        BENCH.sentence("Parts without bytes say nothing of rows.");
        Peer peer = new Peer(BENCH, 7);
        peer.data(false, 128, 131, 0);
        peer.data(false, 0);
        peer.data(false, 128);
        due("they do not end a row", peer, 0, 0, 4, 1);
        peer.data(true, 0, 3);
        peer.due("the row goes on", "10 " + (16 | 4 << 5) + " 2 192 0 3");
        peer.data(false, 128);
        peer.data(true, 0, 131, 0, 3);
        peer.due("nor begin one", "10 " + (18 | 6 << 5) + " 1 192 0 3");
        peer.data(true, 0);
        peer.due("nor are they one", "10 " + (17 | 7 << 5));
    }

    /** Four answers have taken all credit. */
    private static Peer withoutCredit() {
        Peer peer = new Peer(BENCH, 7);
        for (int i = 0; i < 4; i++) {
            asks(peer, 0);
        }
        due("four answers", peer, 4, 0, 0, 0);
        return peer;
    }

    private static void rowsWait() {
        BENCH.sentence("A row (1 to 60 bytes) waits behind others (8 at most; one more is lost) till all of it is parts");
        Peer peer = withoutCredit();
        peer.x.get(1, 97, 1);
        asks(peer, 0);
        peer.x.store(1, 98, 1, 0, 0, 0);
        due("two wait", peer, 4, 2, 0, 1);
        peer.data(false, 1);
        due("one goes", peer, 5, 1, 0, 0);
        peer.data(false, 1);
        due("the other one goes", peer, 6, 0, 0, 0);
        peer.goon();
        String four = "10 224 1 192 0 3 | 10 226 1 192 0 3 | 10 228 1 192 0 3 | 10 230 1 192 0 3";
        peer.due("in order", four + " | 10 232 1 131 0 7 1 0 4 97 | 10 " + (234 | 16) + " 0 192 0 3");
    }

    private static void rowTooMany() {
        BENCH.sentence("(8 at most; one more is lost)");
        Peer peer = withoutCredit();
        for (int i = 1; i <= 10; i++) {
            asks(peer, 0);
            BENCH.due("rows", peer.x.of(1, 7), Math.min(8, i));
        }
        due("eight wait; 3 were owed three times", peer, 7, 8, 0, 1);
        peer.data(false, 20);
        due("eight go", peer, 15, 0, 12, 0);
    }

    private static void roomForTheAnswer() {
        BENCH.sentence("waits behind others (8 at most");
        Peer peer = withoutCredit();
        for (int i = 0; i < 8; i++) {
            asks(peer, 0);
        }
        BENCH.due("eight wait", peer.x.of(1, 7), 8);
        asks(peer, 1);
        BENCH.due("a credit makes a place for the answer", peer.x.of(1, 7), 8);
        peer.data(false, 20);
        BENCH.due("none is lost", peer.x.of(1, 6), 4 + 8 + 1 + 2);
    }

    private static void lostPut() {
        BENCH.sentence("8 at most; one more is lost");
        Peer peer = withoutCredit();
        for (int i = 0; i < 8; i++) {
            asks(peer, 0);
        }
        peer.x.store(1, 97, 1, 1, 0, 0);
        BENCH.due("put", peer.x.put(1, 97, 1), 1);
        BENCH.due("rows", peer.x.of(1, 7), 8);
        BENCH.due("on its way", peer.x.of(1, 14), 1);
        peer.data(false, 20);
        BENCH.due("all that waited goes, without it", peer.x.of(1, 6) * 10 + peer.x.of(1, 7), 140);
        BENCH.due("it may not ask again", peer.x.put(1, 97, 1), -2);
    }

    private static void asSoonAsCredit() {
        BENCH.sentence("as soon as there is CREDIT (and room for parts) its next 31 bytes (with MORE) or last ones are a part, with OWED as CREDIT.");
        Peer peer = new Peer(BENCH, 7);
        peer.x.store(1, 97, 1, 40, 0, 0);
        for (int i = 0; i < 3; i++) {
            asks(peer, 0);
        }
        peer.x.put(1, 97, 1);
        due("one credit for two parts: the row is partly sent", peer, 4, 1, 0, 0);
        half(peer, 0);
        half(peer, 0);
        due("two owed", peer, 4, 1, 0, 2);
        peer.data(false, 1);
        due("the rest goes, and tells it", peer, 5, 0, 0, 0);
        peer.goon();
        peer.next = 3;
        peer.x.take(1);
        peer.goon();
        String first = "10 198 128 130 0 50 1 0 4 97 73 0 43" + " 0".repeat(21);
        peer.due("MORE, then the last ones", first + " | 10 " + (200 | 16) + " 2" + " 0".repeat(19));
    }

    private static void partsAreFull() {
        BENCH.sentence("PARTS that wait (24 at most), in order.");
        Peer peer = full();
        asks(peer, 0);
        due("no room", peer, 24, 1, 28, 1);
        peer.x.get(1, 97, 1);
        due("no room", peer, 24, 2, 28, 1);
    }

    private static void asSoonAsRoom() {
        BENCH.sentence("(and room for parts)");
        Peer peer = full();
        for (int i = 1; i <= 3; i++) {
            asks(peer, 0);
            due("no room", peer, 24, i, 28, i);
        }
        peer.goon();
        peer.x.take(1);
        peer.frame(1 | 2 << 5);
        due("room for two", peer, 24, 1, 26, 0);
        peer.frame(1 | 7 << 5);
        due("room for all", peer, 20, 0, 25, 0);
        Peer other = full();
        for (int i = 0; i < 4; i++) {
            asks(other, 0);
        }
        due("no more is let", other, 24, 4, 28, 4);
        other.goon();
        other.x.take(1);
        other.next = 1;
        half(other, 0);
        due("NEXT makes room, a part tells four: so the frame's own is let", other, 24, 3, 27, 1);
    }

    /** Rows of 31, 32, 56 and 57 bytes: that is the longest one that a device makes. */
    private static void lastOnes() {
        BENCH.sentence("its next 31 bytes (with MORE) or last ones");
        for (int size : new int[] {14, 15, 39, 40}) {
            Peer peer = new Peer(BENCH, 7);
            long name = Bench.name("abcdefgh");
            peer.x.store(1, name, 8, size, 2, 0);
            peer.x.put(1, name, 8);
            int row = 3 + 11 + 3 + size;
            BENCH.due("parts of a row of " + row, peer.x.of(1, 6), row <= 31 ? 1 : 2);
            peer.goon();
            peer.dueRows("the row", "130 0 " + row + " 1 0 11 97 98 99 100 101 102 103 104 73 0 " + (size + 3) + " 2".repeat(size));
        }
    }

    private static void owedThree() {
        BENCH.sentence("If OWED is 3 or more and nothing of a row can go: a part without bytes.");
        for (Peer peer : new Peer[] {new Peer(BENCH, 7), Peer.ofFirst(BENCH, 7)}) {
            half(peer, 0);
            half(peer, 0);
            due("two", peer, 0, 0, 4, 2);
            half(peer, 0);
            due("three: a part without bytes", peer, 1, 0, 4, 0);
            if (peer.d == 0) {
                peer.x.tick(0);
            } else {
                peer.goon();
            }
            peer.due("it tells three", (peer.d == 0 ? "3 " : "10 ") + (16 | 3 << 5) + " 3");
            half(peer, 0);
            due("that is known to be there; one more is owed", peer, 0, 0, 4, 1);
        }
        Peer waits = withoutCredit();
        asks(waits, 0);
        asks(waits, 0);
        due("rows wait for credit", waits, 4, 2, 0, 2);
        asks(waits, 0);
        due("three: a part without bytes, for no row can go", waits, 5, 3, 0, 0);
        asks(waits, 1);
        due("a row can go: it tells it", waits, 6, 3, 0, 0);
    }

    private static void owedThreeWithoutRoom() {
        BENCH.sentence("If OWED is 3 or more");
        Peer peer = full();
        for (int i = 1; i <= 4; i++) {
            half(peer, 0);
        }
        due("no room for a part", peer, 24, 0, 28, 4);
        peer.goon();
        peer.x.take(1);
        peer.frame(1 | 1 << 5);
        due("room: four are told", peer, 24, 0, 28, 0);
        peer.next = 1;
        for (int i = 0; i < 3; i++) {
            peer.goon();
            peer.takes();
        }
        peer.goon();
        peer.due("by the last one", "10 " + (12 | 4 << 5) + " 1 192 0 3 | 10 " + (14 | 4 << 5) + " 1 192 0 3 | 10 " + (16 | 4 << 5) + " 4");
        Peer waits = full();
        half(waits, 0);
        half(waits, 0);
        half(waits, 0);
        waits.x.get(1, 97, 1);
        due("a row waits for room, too", waits, 24, 1, 28, 3);
        waits.goon();
        waits.x.take(1);
        waits.frame(1 | 2 << 5);
        due("the row tells it, no part without bytes does", waits, 23, 0, 27, 0);
    }

    private static void rowsOfOneTo60() {
        BENCH.sentence("Rows come whole to the OBJECTS of the other one;");
        for (int n : new int[] {1, 2, 30, 31, 32, 59, 60}) {
            Peer peer = new Peer(BENCH, 7);
            peer.row(true, new int[n]);
            BENCH.due("a row of " + n, peer.x.of(1, 6), 1);
        }
        Peer peer = new Peer(BENCH, 7);
        int[] sixty = new int[60];
        System.arraycopy(new int[] {130, 0, 60, 1, 0, 4, 97, 73, 0, 53}, 0, sixty, 0, 10);
        peer.dueAnswer("60 bytes", "160 0 3", sixty);
        BENCH.due("50 of them are the object's", peer.x.size(1, 97, 1), 50);
        for (int octet : new int[] {131, 0, 7, 1, 0, 4}) {
            peer.data(true, 128, octet);
            peer.takes();
        }
        peer.data(true, 4, 98);
        peer.dueRows("byte by byte", "196 0 3");
    }

    private static void longerThan60() {
        BENCH.sentence("longer than 60 bytes: what came is nothing up to its end.");
        Peer peer = new Peer(BENCH, 7);
        peer.row(true, new int[61]);
        peer.due("61 bytes are nothing", "10 " + (17 | 2 << 5));
        BENCH.due("but owed", peer.x.of(1, 9), 2);
        peer.dueAnswer("the next row", "192 0 3", ASKED);
        int[] part = Bench.change(new int[32], 0, 128);
        for (int i = 0; i < 10; i++) {
            peer.data(true, part);
            peer.takes();
        }
        int parts = peer.x.of(1, 6);
        peer.data(false, 0, 131, 0, 3);
        BENCH.due("its end is nothing, too", peer.x.of(1, 6), parts);
        peer.goon();
        peer.takes();
        peer.dueAnswer("then rows come again", "192 0 3", ASKED);
        Peer cut = new Peer(BENCH, 7);
        cut.data(false, part);
        cut.data(false, Arrays.copyOf(part, 30));
        cut.data(true, 0, 7);
        cut.due("60 with MORE, then one: it is only owed", "10 " + (16 | 3 << 5) + " 3");
        Peer whole = new Peer(BENCH, 7);
        whole.data(false, part);
        whole.data(false, Arrays.copyOf(part, 29));
        whole.data(true, 0, 7);
        whole.due("59 with MORE, then one", "10 " + (16 | 3 << 5) + " 3 192 0 3");
    }

    /** Both put and get at once, and both are done. */
    private static void bothAtOnce() {
        BENCH.sentence("CREDIT: how many parts with bytes the other may send still");
        for (int window = 1; window <= 7; window++) {
            BeamHouse x = Bench.linked(window);
            x.store(0, 97, 1, 120, 3, 5);
            x.store(1, 98, 1, 119, 9, 7);
            x.put(0, 97, 1);
            x.put(1, 98, 1);
            for (int i = 0; i < 40; i++) {
                Bench.go(x, 1);
                BENCH.due("credit", x.of(0, 8) <= 4 && x.of(1, 8) <= 4 ? 1 : 0, 1);
                BENCH.due("owed", x.of(0, 9) < 3 && x.of(1, 9) < 3 ? 1 : 0, 1);
            }
            BENCH.due("both are done", x.of(0, 14) + x.of(1, 14), 320);
            BENCH.due("nothing is left", x.of(0, 6) + x.of(1, 6) + x.of(0, 7) + x.of(1, 7), 0);
            BENCH.due("all credit is there or owed", x.of(0, 8) + x.of(1, 9), 4);
            BENCH.due("all credit is there or owed", x.of(1, 8) + x.of(0, 9), 4);
            for (int i = 0; i < 119; i++) {
                BENCH.due("a", x.octet(1, 97, 1, i), i * 5 + 3 & 255);
                BENCH.due("b", x.octet(0, 98, 1, i), i * 7 + 9 & 255);
            }
        }
    }
}
