import java.util.Arrays;

/** OBJECTS of a SERVER: which rows there are, and how each one is answered. */
public final class ServerTest {
    private static final Bench BENCH = new Bench("ServerTest");
    private static final String TWOS = " 2".repeat(40);

    public static void main(String[] args) {
        puts();
        putsInPlace();
        bodiesSinceTheName();
        putsUpTo120();
        putsWithoutRoom();
        getsIn40s();
        getsAsItIsNow();
        getsNone();
        nothingOnItsWay();
        noNameBefore();
        rowsAndHeaders();
        lengths();
        headersOfAnotherKind();
        headersThatDoNotFill();
        namesOfOneToEight();
        namesWithAByte0();
        anotherCode();
        theOtherIsLeftAside();
        theLastOneCounts();
        illRowsChangeNothing();
        answersAreNotAnswered();
        BENCH.ends();
    }

    private static Peer peer() {
        return new Peer(BENCH, 7);
    }

    /** A row of a code with a header of n bytes 2, each of its lengths told right. */
    private static int[] row(int code, int kind, int n) {
        int[] row = new int[6 + n];
        Arrays.fill(row, 2);
        System.arraycopy(new int[] {code, 0, 6 + n, kind, 0, 3 + n}, 0, row, 0, 6);
        return row;
    }

    private static void puts() {
        BENCH.sentence("The SERVER answers each row: to 2: 144;");
        Peer peer = peer();
        peer.dueAnswer("2", "144 0 3", 2, 0, 11, 1, 0, 4, 97, 72, 0, 4, 5);
        BENCH.due("not yet there", peer.x.size(1, 97, 1), -1);
        peer.dueAnswer("2 goes on", "144 0 3", 2, 0, 8, 72, 0, 5, 6, 7);
        peer.dueAnswer("a BODY of no bytes", "144 0 3", 2, 0, 6, 72, 0, 3);
        peer.dueAnswer("130", "160 0 3", 130, 0, 7, 73, 0, 4, 8);
        BENCH.due("there", peer.x.size(1, 97, 1), 4);
        for (int i = 0; i < 4; i++) {
            BENCH.due("its bytes", peer.x.octet(1, 97, 1, i), 5 + i);
        }
        Peer first = Peer.ofFirst(BENCH, 7);
        first.dueAnswer("a first one is server, too", "160 0 3", 130, 0, 11, 1, 0, 4, 97, 73, 0, 4, 9);
        BENCH.due("there", first.x.octet(0, 97, 1, 0), 9);
    }

    private static void putsInPlace() {
        BENCH.sentence("are the OBJECT of that NAME (in place of the one that was): 160;");
        Peer peer = peer();
        peer.x.store(1, 97, 1, 50, 1, 0);
        peer.dueAnswer("at once", "160 0 3", 130, 0, 11, 1, 0, 4, 97, 73, 0, 4, 7);
        BENCH.due("in place of the one that was", peer.x.size(1, 97, 1) * 10 + peer.x.of(1, 13), 11);
        BENCH.due("it is the new one", peer.x.octet(1, 97, 1, 0), 7);
        peer.dueAnswer("of no bytes", "160 0 3", 130, 0, 10, 1, 0, 4, 97, 73, 0, 3);
        BENCH.due("it has none", peer.x.size(1, 97, 1), 0);
    }

    private static void bodiesSinceTheName() {
        BENCH.sentence("to 130: all BODIES since the NAME");
        Peer peer = peer();
        peer.row(false, 2, 0, 11, 1, 0, 4, 98, 72, 0, 4, 5);
        peer.row(false, 2, 0, 11, 1, 0, 4, 99, 72, 0, 4, 6);
        peer.dueAnswer("a NAME begins anew", "144 0 3 144 0 3 160 0 3", 130, 0, 7, 73, 0, 4, 7);
        BENCH.due("the first one is not there", peer.x.size(1, 98, 1), -1);
        BENCH.due("the second one is", peer.x.octet(1, 99, 1, 0) * 10 + peer.x.octet(1, 99, 1, 1), 67);
        peer.row(false, 2, 0, 11, 1, 0, 4, 97, 72, 0, 4, 5);
        peer.dueAnswer("the same NAME, too", "144 0 3 160 0 3", 130, 0, 11, 1, 0, 4, 97, 73, 0, 4, 8);
        BENCH.due("only what came since", peer.x.size(1, 97, 1) * 10 + peer.x.octet(1, 97, 1, 0), 18);
    }

    /** 40 bytes thrice, and so many more. */
    private static void putsUpTo120() {
        BENCH.sentence("no room in the STORE, or more than 120 bytes: 205.");
        for (int more : new int[] {-1, 0, 1, 40}) {
            Peer peer = peer();
            peer.x.store(1, 97, 1, 7, 0, 0);
            peer.row(false, 2, 0, 10, 1, 0, 4, 97, 72, 0, 3);
            for (int i = 0; i < 2; i++) {
                peer.row(false, row(2, 72, 40));
            }
            peer.dueAnswer("2 is answered as ever", "144 0 3 144 0 3 144 0 3 144 0 3", row(2, 72, 40 + Math.min(0, more)));
            peer.dueAnswer(120 + more + " bytes", more <= 0 ? "160 0 3" : "205 0 3", row(130, 73, Math.max(0, more)));
            BENCH.due("the one that was stays, if it is too long", peer.x.size(1, 97, 1), more <= 0 ? 120 + more : 7);
            peer.dueAnswer("it is over", "192 0 3", row(130, 73, 1));
        }
        Peer peer = peer();
        peer.row(false, 2, 0, 10, 1, 0, 4, 97, 72, 0, 3);
        for (int i = 0; i < 5; i++) {
            peer.row(true, row(2, 72, 54));
            peer.takes();
        }
        peer.goon();
        peer.takes();
        peer.dueAnswer("270 bytes", "205 0 3", row(130, 73, 0));
        BENCH.due("none is there", peer.x.of(1, 13), 0);
    }

    private static void putsWithoutRoom() {
        BENCH.sentence("160; no room in the STORE");
        Peer peer = peer();
        for (int i = 0; i < 5; i++) {
            peer.x.store(1, 65 + i, 1, i, 0, 0);
        }
        peer.dueAnswer("the sixth", "160 0 3", 130, 0, 10, 1, 0, 4, 75, 73, 0, 3);
        peer.dueAnswer("a seventh", "205 0 3", 130, 0, 10, 1, 0, 4, 76, 73, 0, 3);
        BENCH.due("it is not there", peer.x.size(1, 76, 1) * 10 + peer.x.of(1, 13), -4);
        peer.dueAnswer("it is over", "192 0 3", 130, 0, 6, 73, 0, 3);
        peer.dueAnswer("in place of one there is room", "160 0 3", 130, 0, 11, 1, 0, 4, 65, 73, 0, 4, 1);
        BENCH.due("six", peer.x.size(1, 65, 1) * 10 + peer.x.of(1, 13), 16);
        peer.row(false, 2, 0, 10, 1, 0, 4, 77, 72, 0, 3);
        peer.dueAnswer("2 is answered as ever", "144 0 3 205 0 3", 130, 0, 6, 73, 0, 3);
    }

    private static void getsIn40s() {
        BENCH.sentence("144 with its next 40 bytes as BODY, 160 with the last ones (0 to 40) as LAST.");
        for (int size : new int[] {0, 1, 39, 40, 41, 79, 80, 81, 119, 120}) {
            Peer peer = peer();
            peer.x.store(1, 97, 1, size, 2, 0);
            int left = size;
            for (int k = 0; left > 40; k++) {
                int[] row = k == 0 ? new int[] {131, 0, 7, 1, 0, 4, 97} : new int[] {131, 0, 3};
                peer.dueAnswer("the next 40 of " + size, "144 0 46 72 0 43" + TWOS, row);
                left -= 40;
            }
            int[] row = size == left ? new int[] {131, 0, 7, 1, 0, 4, 97} : new int[] {131, 0, 3};
            peer.dueAnswer("the last ones of " + size, "160 0 " + (6 + left) + " 73 0 " + (3 + left) + " 2".repeat(left), row);
            peer.dueAnswer("it is over", "192 0 3", 131, 0, 3);
        }
    }

    private static void getsAsItIsNow() {
        BENCH.sentence("To 131 with NAME: the OBJECT as it is now goes on its way");
        Peer peer = peer();
        peer.x.store(1, 97, 1, 41, 2, 0);
        peer.dueAnswer("the first ones", "144 0 46 72 0 43" + TWOS, 131, 0, 7, 1, 0, 4, 97);
        peer.x.store(1, 97, 1, 90, 3, 0);
        peer.dueAnswer("the rest as it was", "160 0 7 73 0 4 2", 131, 0, 3);
        peer.dueAnswer("now it is another one", "144 0 46 72 0 43" + " 3".repeat(40), 131, 0, 7, 1, 0, 4, 97);
        peer.x.store(1, 97, 1, 1, 4, 0);
        peer.dueAnswer("the NAME again begins anew", "160 0 7 73 0 4 4", 131, 0, 7, 1, 0, 4, 97);
        peer.dueAnswer("it is over", "192 0 3", 131, 0, 3);
    }

    private static void getsNone() {
        BENCH.sentence("goes on its way: without one 196;");
        Peer peer = peer();
        peer.dueAnswer("none", "196 0 3", 131, 0, 7, 1, 0, 4, 97);
        peer.x.store(1, 97, 1, 41, 2, 0);
        peer.dueAnswer("another name", "196 0 3", 131, 0, 8, 1, 0, 5, 97, 97);
        peer.dueAnswer("nothing is on its way then", "192 0 3", 131, 0, 3);
    }

    private static void nothingOnItsWay() {
        BENCH.sentence("131 without NAME and nothing on its way");
        Peer peer = peer();
        peer.x.store(1, 97, 1, 3, 2, 0);
        peer.dueAnswer("131 at first", "192 0 3", 131, 0, 3);
        peer.dueAnswer("131 with NAME", "160 0 9 73 0 6 2 2 2", 131, 0, 7, 1, 0, 4, 97);
        peer.dueAnswer("131 behind the last one", "192 0 3", 131, 0, 3);
        peer.dueAnswer("a PUT's NAME", "144 0 3", 2, 0, 10, 1, 0, 4, 97, 72, 0, 3);
        peer.dueAnswer("is no GET's", "192 0 3", 131, 0, 3);
    }

    private static void noNameBefore() {
        BENCH.sentence("2 or 130 without NAME and no NAME before: 192.");
        Peer peer = peer();
        peer.dueAnswer("2 at first", "192 0 3", 2, 0, 7, 72, 0, 4, 5);
        peer.dueAnswer("130 at first", "192 0 3", 130, 0, 7, 73, 0, 4, 5);
        peer.x.store(1, 97, 1, 41, 2, 0);
        peer.dueAnswer("a GET's NAME", "144 0 46 72 0 43" + TWOS, 131, 0, 7, 1, 0, 4, 97);
        peer.dueAnswer("is no PUT's: 2", "192 0 3", 2, 0, 7, 72, 0, 4, 5);
        peer.dueAnswer("is no PUT's: 130", "192 0 3", 130, 0, 7, 73, 0, 4, 5);
        peer.dueAnswer("the GET goes on", "160 0 7 73 0 4 2", 131, 0, 3);
        peer.dueAnswer("a PUT", "160 0 3", 130, 0, 11, 1, 0, 4, 97, 73, 0, 4, 5);
        peer.dueAnswer("behind it: 2", "192 0 3", 2, 0, 7, 72, 0, 4, 5);
        Peer other = peer();
        other.dueAnswer("a PUT", "160 0 3", 130, 0, 11, 1, 0, 4, 97, 73, 0, 4, 5);
        other.dueAnswer("behind it: 130", "192 0 3", 130, 0, 7, 73, 0, 4, 5);
    }

    private static void rowsAndHeaders() {
        BENCH.sentence("a row is a code, 2 bytes for how many bytes it has (the higher first), then HEADERS: 1 NAME, 72 BODY, 73 LAST, each with 2 bytes for how many it has, these 3, too.");
        Peer peer = peer();
        peer.dueAnswer("a row of 3 bytes", "192 0 3", 131, 0, 3);
        peer.dueAnswer("headers in any order", "160 0 3", 130, 0, 14, 73, 0, 4, 8, 72, 0, 3, 1, 0, 4, 97);
        BENCH.due("LAST of one byte", peer.x.size(1, 97, 1) * 10 + peer.x.octet(1, 97, 1, 0), 18);
        peer.dueAnswer("a row of 60 bytes", "160 0 3", Bench.join(new int[] {130, 0, 60, 1, 0, 4, 98}, times(73, 50)));
        BENCH.due("LAST of 50 bytes", peer.x.size(1, 98, 1) * 10 + peer.x.octet(1, 98, 1, 49), 502);
        int[] nameLast = Bench.join(new int[] {130, 0, 60}, times(73, 50), new int[] {1, 0, 4, 99});
        peer.dueAnswer("its NAME at the end", "160 0 3", nameLast);
        int[] bodyLast = Bench.join(new int[] {130, 0, 60, 1, 0, 4, 100}, times(73, 47), new int[] {72, 0, 3});
        peer.dueAnswer("an empty BODY at the end", "160 0 3", bodyLast);
        BENCH.due("LAST of 50 and of 47 bytes", peer.x.size(1, 99, 1) * 100 + peer.x.size(1, 100, 1), 5047);
        peer.dueAnswer("the lengths of the headers, the lower first", "192 0 3", 131, 0, 7, 1, 4, 0, 97);
    }

    /** A header of n bytes 2. */
    private static int[] times(int kind, int n) {
        return Arrays.copyOfRange(row(0, kind, n), 3, 6 + n);
    }

    private static void lengths() {
        BENCH.sentence("Any row that is none of these (its length");
        Peer peer = peer();
        peer.x.store(1, 97, 1, 0, 0, 0);
        peer.dueAnswer("a byte", "192 0 3", 131);
        peer.dueAnswer("two bytes", "192 0 3", 131, 0);
        peer.dueAnswer("told as 0", "192 0 3", 131, 0, 0);
        peer.dueAnswer("one less", "192 0 3", 131, 0, 6, 1, 0, 4, 97);
        peer.dueAnswer("one more", "192 0 3", 131, 0, 8, 1, 0, 4, 97);
        peer.dueAnswer("256 more", "192 0 3", 131, 1, 7, 1, 0, 4, 97);
        peer.dueAnswer("the lower first", "192 0 3", 131, 7, 0, 1, 0, 4, 97);
        peer.dueAnswer("right", "160 0 6 73 0 3", 131, 0, 7, 1, 0, 4, 97);
        shortBehindShort();
    }

    /** The bytes of the row before would make the length of this one right. */
    private static void shortBehindShort() {
        Peer peer = peer();
        peer.x.store(1, 97, 1, 41, 2, 0);
        peer.dueAnswer("a GET", "144 0 46 72 0 43" + TWOS, 131, 0, 7, 1, 0, 4, 97);
        peer.dueAnswer("told as 1", "192 0 3", 131, 0, 1);
        peer.dueAnswer("one byte behind it", "192 0 3", 131);
        peer.dueAnswer("told as 2", "192 0 3", 131, 0, 2);
        peer.dueAnswer("two bytes behind it", "192 0 3", 131, 0);
        peer.dueAnswer("told as 3", "160 0 7 73 0 4 2", 131, 0, 3);
    }

    private static void headersOfAnotherKind() {
        BENCH.sentence("HEADERS of another kind");
        for (int kind = 0; kind < 256; kind++) {
            boolean isKind = kind == 1 || kind == 72 || kind == 73;
            Peer peer = peer();
            peer.x.store(1, 97, 1, 0, 0, 0);
            peer.row(true, 131, 0, 11, kind, 0, 4, 98, 1, 0, 4, 97);
            peer.due("kind " + kind, "10 " + (16 | 1 << 5) + " 1 " + (isKind ? "160 0 6 73 0 3" : "192 0 3"));
        }
        Peer peer = peer();
        peer.dueAnswer("behind a right one", "192 0 3", 130, 0, 13, 1, 0, 4, 97, 73, 0, 3, 74, 0, 3);
        BENCH.due("nothing is put", peer.x.of(1, 13), 0);
    }

    private static void headersThatDoNotFill() {
        BENCH.sentence("or that do not fill it");
        Peer peer = peer();
        peer.x.store(1, 97, 1, 0, 0, 0);
        peer.dueAnswer("a byte is left", "192 0 3", 131, 0, 8, 1, 0, 4, 97, 72);
        peer.dueAnswer("two bytes are left", "192 0 3", 131, 0, 9, 1, 0, 4, 97, 72, 0);
        peer.dueAnswer("three fill it", "160 0 6 73 0 3", 131, 0, 10, 1, 0, 4, 97, 72, 0, 3);
        peer.dueAnswer("one more than there is", "192 0 3", 131, 0, 7, 1, 0, 5, 97);
        peer.dueAnswer("256 more than there is", "192 0 3", 131, 0, 7, 1, 1, 4, 97);
        Peer other = peer();
        for (int n = 0; n < 3; n++) {
            other.dueAnswer("a header of " + n, "192 0 3", 131, 0, 6, 72, 0, n);
            other.dueAnswer("a NAME of " + n, "192 0 3", 131, 0, 7, 1, 0, n, 97);
        }
    }

    private static void namesOfOneToEight() {
        BENCH.sentence("a NAME of 0 or more than 8 bytes");
        for (int n = 0; n <= 12; n++) {
            int[] row = row(131, 1, n);
            Peer peer = peer();
            peer.dueAnswer("131 with a NAME of " + n, n < 1 || n > 8 ? "192 0 3" : "196 0 3", row);
            row = Bench.join(Bench.change(row(130, 1, n), 2, 9 + n), new int[] {73, 0, 3});
            peer.dueAnswer("130 with a NAME of " + n, n < 1 || n > 8 ? "192 0 3" : "160 0 3", row);
            BENCH.due("put", peer.x.size(1, 0x0202020202020202L, n), n < 1 || n > 8 ? -1 : 0);
        }
    }

    private static void namesWithAByte0() {
        BENCH.sentence("or with a byte 0");
        for (int k = 0; k < 8; k++) {
            Peer peer = peer();
            peer.dueAnswer("a byte 0 at " + k, "192 0 3", Bench.change(row(131, 1, 8), 6 + k, 0));
            peer.dueAnswer("a byte 255 at " + k, "196 0 3", Bench.change(row(131, 1, 8), 6 + k, 255));
        }
        Peer peer = peer();
        peer.dueAnswer("0 alone", "192 0 3", 131, 0, 7, 1, 0, 4, 0);
        peer.dueAnswer("in the first of two", "192 0 3", 131, 0, 11, 1, 0, 4, 0, 1, 0, 4, 97);
        peer.x.store(1, 0xFFC1, 2, 0, 0, 0);
        peer.dueAnswer("bytes above 127", "160 0 6 73 0 3", 131, 0, 8, 1, 0, 5, 255, 193);
    }

    private static boolean isAnswer(int code) {
        return code == 144 || code == 160 || code == 192 || code == 196 || code == 205;
    }

    private static void anotherCode() {
        BENCH.sentence("another code;");
        for (int code = 0; code < 256; code++) {
            Peer peer = peer();
            peer.row(true, code, 0, 13, 1, 0, 4, 97, 72, 0, 3, 73, 0, 3);
            String due = code == 2 ? "144 0 3" : code == 130 ? "160 0 3" : code == 131 ? "196 0 3" : "192 0 3";
            peer.due("code " + code, "10 " + (isAnswer(code) ? "49" : 16 + 32 + " 1 " + due));
        }
    }

    private static void theOtherIsLeftAside() {
        BENCH.sentence("2 has BODY, 130 LAST: the other one is left aside;");
        Peer peer = peer();
        peer.dueAnswer("LAST in 2", "144 0 3", 2, 0, 16, 1, 0, 4, 98, 73, 0, 5, 1, 2, 72, 0, 4, 4);
        peer.dueAnswer("BODY in 130", "160 0 3", 130, 0, 12, 72, 0, 5, 1, 2, 73, 0, 4, 3);
        BENCH.due("two bytes", peer.x.size(1, 98, 1), 2);
        BENCH.due("4 and 3", peer.x.octet(1, 98, 1, 0) * 10 + peer.x.octet(1, 98, 1, 1), 43);
        peer.dueAnswer("both in 131", "160 0 8 73 0 5 4 3", 131, 0, 14, 72, 0, 4, 1, 1, 0, 4, 98, 73, 0, 3);
        peer.dueAnswer("2 with LAST alone has no bytes", "144 0 3", 2, 0, 11, 1, 0, 4, 97, 73, 0, 4, 9);
        peer.dueAnswer("130 with BODY alone has none, either", "160 0 3", 130, 0, 7, 72, 0, 4, 9);
        BENCH.due("an empty one", peer.x.size(1, 97, 1), 0);
    }

    private static void theLastOneCounts() {
        BENCH.sentence("of two of one kind the last one counts");
        Peer peer = peer();
        peer.dueAnswer("two BODIES", "144 0 3", 2, 0, 16, 1, 0, 4, 98, 72, 0, 5, 1, 2, 72, 0, 4, 4);
        peer.dueAnswer("two LASTS", "160 0 3", 130, 0, 12, 73, 0, 5, 8, 8, 73, 0, 4, 9);
        BENCH.due("two bytes", peer.x.size(1, 98, 1), 2);
        BENCH.due("4 and 9", peer.x.octet(1, 98, 1, 0) * 10 + peer.x.octet(1, 98, 1, 1), 49);
        peer.dueAnswer("two NAMES", "160 0 3", 130, 0, 14, 1, 0, 4, 100, 1, 0, 4, 101, 73, 0, 3);
        BENCH.due("the last one", peer.x.size(1, 101, 1) * 10 + peer.x.size(1, 100, 1), -1);
        peer.dueAnswer("the last one may be shorter", "160 0 3", 130, 0, 15, 1, 0, 5, 99, 99, 1, 0, 4, 99, 73, 0, 3);
        BENCH.due("it is", peer.x.size(1, 99, 1) * 10 + peer.x.size(1, Bench.name("cc"), 2), -1);
    }

    private static void illRowsChangeNothing() {
        BENCH.sentence("of two of one kind the last one counts): 192.");
        Peer peer = peer();
        peer.x.store(1, 97, 1, 41, 2, 0);
        peer.dueAnswer("a GET", "144 0 46 72 0 43" + TWOS, 131, 0, 7, 1, 0, 4, 97);
        peer.dueAnswer("a PUT", "144 0 3", 2, 0, 11, 1, 0, 4, 98, 72, 0, 4, 5);
        peer.dueAnswer("an ill 2", "192 0 3", 2, 0, 8, 72, 0, 4, 5, 0);
        peer.dueAnswer("an ill 130 with a NAME", "192 0 3", 130, 0, 10, 1, 0, 4, 99, 73, 0, 4);
        peer.dueAnswer("an ill 131 with a NAME", "192 0 3", 131, 0, 8, 1, 0, 4, 97, 0);
        peer.dueAnswer("the GET goes on", "160 0 7 73 0 4 2", 131, 0, 3);
        peer.dueAnswer("the PUT goes on", "160 0 3", 130, 0, 7, 73, 0, 4, 6);
        BENCH.due("two bytes", peer.x.size(1, 98, 1), 2);
    }

    private static void answersAreNotAnswered() {
        BENCH.sentence("A row whose code is 144, 160, 192, 196 or 205 is an ANSWER (one that is ill, or for which a CLIENT does not wait, is nothing).");
        for (int code : new int[] {144, 160, 192, 196, 205}) {
            Peer peer = peer();
            peer.dueAnswer("for which none waits: " + code, "", code, 0, 3);
            peer.dueAnswer("one that is ill: " + code, "", code);
            peer.dueAnswer("one that is ill: " + code, "", code, 9, 9, 9);
            BENCH.due("nothing", peer.x.of(1, 14) + peer.x.of(1, 13), 0);
        }
    }
}
