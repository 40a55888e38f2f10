/** Promises 13 (store), 14 (put), 15 (get), 16 (size), 17 (octet), and what a server and a client answer. */
public final class ObjectTest {
    private static final Bench BENCH = new Bench("ObjectTest");

    public static void main(String[] args) {
        stores();
        storeIsFull();
        names();
        putAndGetArguments();
        putRows();
        getRows();
        sizesGoOver();
        serverPuts();
        serverPutsTooMuch();
        serverGets();
        illRows();
        illHeaders();
        clientPut();
        clientGet();
        clientGetTooMuch();
        illAnswers();
        lostOnTheWay();
        asItIsNow();
        BENCH.ends();
    }

    private static void stores() {
        BeamHouse x = new BeamHouse();
        long name = Bench.name("abcdefgh");
        BENCH.due("store(-1)", x.store(-1, 97, 1, 1, 0, 0), -1);
        BENCH.due("store(4)", x.store(4, 0, 0, -1, 0, 0), -1);
        BENCH.due("n 0", x.store(0, name, 0, 1, 0, 0), -4);
        BENCH.due("n -1", x.store(0, name, -1, 1, 0, 0), -4);
        BENCH.due("n 9", x.store(0, name, 9, 1, 0, 0), -4);
        BENCH.due("n max", x.store(0, name, Integer.MAX_VALUE, 1, 0, 0), -4);
        BENCH.due("size -1", x.store(0, name, 8, -1, 0, 0), -4);
        BENCH.due("size 121", x.store(0, name, 8, 121, 0, 0), -4);
        BENCH.due("a byte 0 first", x.store(0, 0x6162, 3, 1, 0, 0), -4);
        BENCH.due("a byte 0 within", x.store(0, 0x610062, 3, 1, 0, 0), -4);
        BENCH.due("a byte 0 last", x.store(0, 0x6100, 2, 1, 0, 0), -4);
        BENCH.due("none is there", x.of(0, 13), 0);
        BENCH.due("a byte 0 above", x.store(0, 0x610062, 1, 1, 0, 0), 1);
        BENCH.due("size 120", x.store(0, name, 8, 120, -3, -7), 1);
        BENCH.due("size 0", x.store(0, -1, 8, 0, 5, 5), 1);
        BENCH.due("three", x.of(0, 13), 3);
        BENCH.due("another device has none", x.of(1, 13), 0);
        BENCH.due("size", x.size(0, name, 8), 120);
        for (int i = 0; i < 120; i++) {
            BENCH.due("octet " + i, x.octet(0, name, 8, i), (i * -7 - 3) & 255);
        }
        BENCH.due("octet 120", x.octet(0, name, 8, 120), -1);
        BENCH.due("octet -1", x.octet(0, name, 8, -1), -1);
        BENCH.due("octet max", x.octet(0, name, 8, Integer.MAX_VALUE), -1);
        BENCH.due("octet of an empty one", x.octet(0, -1, 8, 0), -1);
        BENCH.due("size of an empty one", x.size(0, -1, 8), 0);
        x.store(0, 0x62, 1, 3, Integer.MAX_VALUE, Integer.MAX_VALUE);
        BENCH.due("round", x.octet(0, 0x62, 1, 2), 2 * Integer.MAX_VALUE + Integer.MAX_VALUE & 255);
    }

    private static void storeIsFull() {
        BeamHouse x = new BeamHouse();
        for (int i = 1; i <= 6; i++) {
            BENCH.due("store", x.store(2, 64 + i, 1, i, i, 0), 1);
            BENCH.due("objects", x.of(2, 13), i);
        }
        BENCH.due("no room", x.store(2, 97, 1, 1, 1, 1), -5);
        BENCH.due("no room, and wrong", x.store(2, 97, 1, 121, 1, 1), -4);
        BENCH.due("in place of one", x.store(2, 66, 1, 20, 9, 0), 1);
        BENCH.due("six still", x.of(2, 13), 6);
        BENCH.due("it is the new one", x.size(2, 66, 1) * 100 + x.octet(2, 66, 1, 19), 2009);
        BENCH.due("a shorter one", x.store(2, 66, 1, 1, 8, 0), 1);
        BENCH.due("a shorter one", x.octet(2, 66, 1, 1), -1);
        for (int i = 1; i <= 6; i++) {
            BENCH.due("the others stay", x.size(2, 64 + i, 1), i == 2 ? 1 : i);
        }
    }

    private static void names() {
        BeamHouse x = new BeamHouse();
        x.store(0, Bench.name("ab"), 2, 2, 1, 1);
        BENCH.due("ab", x.size(0, Bench.name("ab"), 2), 2);
        BENCH.due("xab, two of it", x.size(0, Bench.name("xab"), 2), 2);
        BENCH.due("b", x.size(0, Bench.name("ab"), 1), -1);
        BENCH.due("ba", x.size(0, Bench.name("ba"), 2), -1);
        BENCH.due("no such name", x.size(0, Bench.name("ab"), 0), -1);
        BENCH.due("no such name", x.size(0, Bench.name("ab"), 3), -1);
        BENCH.due("no such name", x.size(0, Bench.name("ab"), 9), -1);
        BENCH.due("no such device", x.size(4, Bench.name("ab"), 2), -1);
        BENCH.due("no such device", x.size(-1, Bench.name("ab"), 2), -1);
        BENCH.due("another device", x.size(1, Bench.name("ab"), 2), -1);
        BENCH.due("octet", x.octet(0, Bench.name("ab"), 2, 1), 2);
        BENCH.due("octet of none", x.octet(0, Bench.name("ac"), 2, 1), -1);
        BENCH.due("octet of no device", x.octet(4, Bench.name("ab"), 2, 1), -1);
        BENCH.due("octet of no name", x.octet(0, Bench.name("ab"), 10, 1), -1);
    }

    private static void putAndGetArguments() {
        BeamHouse x = Bench.linked(3);
        x.store(0, 97, 1, 5, 0, 0);
        BENCH.due("put(-1)", x.put(-1, 97, 1), -1);
        BENCH.due("put(4)", x.put(4, 97, 1), -1);
        BENCH.due("get(-1)", x.get(-1, 97, 1), -1);
        BENCH.due("get(4)", x.get(4, 97, 0), -1);
        BENCH.due("put of an idle one", x.put(2, 97, 1), -2);
        BENCH.due("get of an idle one", x.get(2, 97, 0), -2);
        BENCH.due("put of none", x.put(0, 98, 1), -4);
        BENCH.due("put of no name", x.put(0, 97, 0), -4);
        BENCH.due("put of no name", x.put(0, 97, 9), -4);
        BENCH.due("put of no name", x.put(0, 97, 2), -4);
        BENCH.due("get of no name", x.get(0, 97, 0), -4);
        BENCH.due("get of no name", x.get(0, 97, 9), -4);
        BENCH.due("get of no name", x.get(0, 97, 2), -4);
        BENCH.due("nothing yet", x.of(0, 14), 0);
        BENCH.due("put", x.put(0, 97, 1), 1);
        BENCH.due("on its way", x.of(0, 14), 1);
        BENCH.due("put again", x.put(0, 98, 1), -2);
        BENCH.due("get again", x.get(0, 97, 0), -2);
        BENCH.due("the second one may, too", x.get(1, 98, 1), 1);
        x.call(2, 9, 1);
        x.discover(3, 1);
        BENCH.due("put of a calling one", x.put(2, 97, 1), -2);
        BENCH.due("get of an asking one", x.get(3, 97, 1), -2);
        Bench.go(x, 6);
        BENCH.due("done", x.of(0, 14), 160);
        BENCH.due("none of that name", x.of(1, 14), 196);
        BENCH.due("it may ask again", x.get(0, 98, 1), 1);
        BENCH.due("on its way", x.of(0, 14), 1);
    }

    /** The rows of a put, with all their bytes, by hand. */
    private static void putRows() {
        Peer peer = new Peer(7);
        peer.x.store(1, Bench.name("abcdefgh"), 8, 81, 1, 0);
        peer.x.put(1, Bench.name("abcdefgh"), 8);
        peer.goon();
        String ones = " 1".repeat(40);
        BENCH.due("the first row", rowsOf(peer), "2 0 57 1 0 11 97 98 99 100 101 102 103 104 72 0 43" + ones);
        peer.data(true, 2, 144, 0, 3);
        BENCH.due("the second row", rowsOf(peer), "2 0 46 72 0 43" + ones);
        peer.data(true, 2, 144, 0, 3);
        BENCH.due("the last row", rowsOf(peer), "130 0 7 73 0 4 1");
        BENCH.due("on its way", peer.x.of(1, 14), 1);
        peer.data(true, 2, 160, 0, 3);
        BENCH.due("done", peer.x.of(1, 14), 160);
        BENCH.due("nothing more", rowsOf(peer), "");
        peer.x.store(1, 97, 1, 40, 1, 0);
        peer.x.put(1, 97, 1);
        peer.goon();
        BENCH.due("40 bytes are one row", rowsOf(peer), "130 0 50 1 0 4 97 73 0 43" + ones);
        peer.data(true, 2, 160, 0, 3);
        peer.x.store(1, 98, 1, 0, 1, 0);
        peer.x.put(1, 98, 1);
        peer.goon();
        BENCH.due("0 bytes are one row", rowsOf(peer), "130 0 10 1 0 4 98 73 0 3");
    }

    private static void getRows() {
        Peer peer = new Peer(7);
        peer.x.get(1, Bench.name("xy"), 2);
        peer.goon();
        BENCH.due("the first row", rowsOf(peer), "131 0 8 1 0 5 120 121");
        peer.data(true, 2, 144, 0, 8, 72, 0, 5, 7, 8);
        BENCH.due("the next row", rowsOf(peer), "131 0 3");
        peer.data(true, 2, 160, 0, 7, 73, 0, 4, 9);
        BENCH.due("done", peer.x.of(1, 14), 160);
        BENCH.due("no more rows", rowsOf(peer), "");
        BENCH.due("it is there", peer.x.size(1, Bench.name("xy"), 2), 3);
        for (int i = 0; i < 3; i++) {
            BENCH.due("its bytes", peer.x.octet(1, Bench.name("xy"), 2, i), 7 + i);
        }
    }

    private static String rowsOf(Peer peer) {
        StringBuilder text = new StringBuilder();
        for (int[] frame : Bench.sent(peer.x, 1)) {
            if ((frame[1] & 1) == 0) {
                peer.next = peer.next + 1 & 7;
                for (int i = 3; i < frame.length; i++) {
                    text.append(text.length() == 0 ? "" : " ").append(frame[i]);
                }
            }
        }
        return text.toString();
    }

    private static void sizesGoOver() {
        for (int size : new int[] {0, 1, 39, 40, 41, 79, 80, 81, 119, 120}) {
            for (int n = 1; n <= 8; n += 7) {
                BeamHouse x = Bench.linked(4);
                long name = Bench.name("abcdefgh".substring(0, n));
                x.store(0, name, n, size, size, 3);
                x.put(0, name, n);
                Bench.go(x, 12);
                BENCH.due("put of " + size, x.of(0, 14), 160);
                x.store(0, name, n, 1, 1, 1);
                x.get(0, name, n);
                Bench.go(x, 12);
                BENCH.due("get of " + size, x.of(0, 14), 160);
                BENCH.due("one object", x.of(0, 13) + x.of(1, 13), 2);
                for (int d = 0; d < 2; d++) {
                    BENCH.due("size", x.size(d, name, n), size);
                    for (int i = 0; i < size; i++) {
                        BENCH.due("octet", x.octet(d, name, n, i), i * 3 + size & 255);
                    }
                }
            }
        }
    }

    private static void serverPuts() {
        Peer peer = new Peer(7);
        BENCH.due("2 without a NAME", peer.asks(2, 0, 7, 72, 0, 4, 5), "192 0 3");
        BENCH.due("130 without a NAME", peer.asks(130, 0, 7, 73, 0, 4, 5), "192 0 3");
        BENCH.due("2", peer.asks(2, 0, 11, 1, 0, 4, 97, 72, 0, 4, 5), "144 0 3");
        BENCH.due("not yet there", peer.x.size(1, 97, 1), -1);
        BENCH.due("2 goes on", peer.asks(2, 0, 8, 72, 0, 5, 6, 7), "144 0 3");
        BENCH.due("a row that is ill does not end it", peer.asks(9, 0, 3), "192 0 3");
        BENCH.due("130", peer.asks(130, 0, 7, 73, 0, 4, 8), "160 0 3");
        BENCH.due("there", peer.x.size(1, 97, 1), 4);
        for (int i = 0; i < 4; i++) {
            BENCH.due("its bytes", peer.x.octet(1, 97, 1, i), 5 + i);
        }
        BENCH.due("it is over", peer.asks(130, 0, 7, 73, 0, 4, 8), "192 0 3");
        BENCH.due("at once, in its place", peer.asks(130, 0, 11, 1, 0, 4, 97, 73, 0, 4, 1), "160 0 3");
        BENCH.due("there", peer.x.size(1, 97, 1) * 10 + peer.x.of(1, 13), 11);
        peer.asks(2, 0, 11, 1, 0, 4, 98, 72, 0, 4, 5);
        peer.asks(2, 0, 11, 1, 0, 4, 99, 72, 0, 4, 6);
        BENCH.due("a NAME begins anew", peer.asks(130, 0, 7, 73, 0, 4, 7), "160 0 3");
        BENCH.due("the first one is not there", peer.x.size(1, 98, 1), -1);
        BENCH.due("the second one is", peer.x.size(1, 99, 1), 2);
        BENCH.due("BODY in 130 is left aside", peer.asks(130, 0, 16, 1, 0, 4, 98, 72, 0, 5, 1, 2, 73, 0, 4, 3), "160 0 3");
        BENCH.due("BODY in 130 is left aside", peer.x.size(1, 98, 1) * 10 + peer.x.octet(1, 98, 1, 0), 13);
        BENCH.due("LAST in 2 is left aside", peer.asks(2, 0, 16, 1, 0, 4, 98, 73, 0, 5, 1, 2, 72, 0, 4, 4), "144 0 3");
        BENCH.due("of two the last one", peer.asks(130, 0, 11, 73, 0, 4, 8, 73, 0, 4, 9), "160 0 3");
        BENCH.due("so it is", peer.x.size(1, 98, 1), 2);
        BENCH.due("so it is", peer.x.octet(1, 98, 1, 0) * 10 + peer.x.octet(1, 98, 1, 1), 49);
        BENCH.due("2 without BODY", peer.asks(2, 0, 7, 1, 0, 4, 102), "144 0 3");
        BENCH.due("130 without LAST", peer.asks(130, 0, 3), "160 0 3");
        BENCH.due("has no bytes", peer.x.size(1, 102, 1), 0);
        peer.asks(130, 0, 14, 1, 0, 4, 100, 1, 0, 4, 101, 73, 0, 3);
        BENCH.due("of two NAMES the last one", peer.x.size(1, 101, 1) * 10 + peer.x.size(1, 100, 1), -1);
    }

    private static void serverPutsTooMuch() {
        Peer peer = new Peer(7);
        peer.x.store(1, 97, 1, 7, 0, 0);
        int[] forty = new int[46];
        forty[0] = 2;
        forty[2] = 46;
        forty[3] = 72;
        forty[5] = 43;
        peer.asks(2, 0, 10, 1, 0, 4, 97, 72, 0, 3);
        for (int i = 0; i < 3; i++) {
            BENCH.due("40 bytes", peer.asks(forty), "144 0 3");
        }
        BENCH.due("120 bytes", peer.asks(130, 0, 6, 73, 0, 3), "160 0 3");
        BENCH.due("120 bytes", peer.x.size(1, 97, 1), 120);
        peer.asks(2, 0, 10, 1, 0, 4, 97, 72, 0, 3);
        for (int i = 0; i < 4; i++) {
            BENCH.due("40 bytes, even if too many", peer.asks(forty), "144 0 3");
        }
        BENCH.due("160 bytes", peer.asks(130, 0, 6, 73, 0, 3), "205 0 3");
        peer.asks(2, 0, 10, 1, 0, 4, 97, 72, 0, 3);
        for (int i = 0; i < 3; i++) {
            peer.asks(forty);
        }
        BENCH.due("121 bytes", peer.asks(130, 0, 7, 73, 0, 4, 1), "205 0 3");
        BENCH.due("it is over, too", peer.asks(130, 0, 7, 73, 0, 4, 1), "192 0 3");
        BENCH.due("the one that was stays", peer.x.size(1, 97, 1), 120);
        for (int i = 0; i < 5; i++) {
            BENCH.due("put", peer.asks(130, 0, 10, 1, 0, 4, 65 + i, 73, 0, 3), "160 0 3");
        }
        BENCH.due("no room", peer.asks(130, 0, 10, 1, 0, 4, 75, 73, 0, 3), "205 0 3");
        BENCH.due("in place of one", peer.asks(130, 0, 10, 1, 0, 4, 97, 73, 0, 3), "160 0 3");
        BENCH.due("six", peer.x.of(1, 13), 6);
        BENCH.due("empty", peer.x.size(1, 97, 1), 0);
    }

    private static void serverGets() {
        Peer peer = new Peer(7);
        String twos = " 2".repeat(40);
        BENCH.due("nothing on its way", peer.asks(131, 0, 3), "192 0 3");
        BENCH.due("none of that name", peer.asks(131, 0, 7, 1, 0, 4, 97), "196 0 3");
        peer.x.store(1, 97, 1, 81, 2, 0);
        BENCH.due("the first ones", peer.asks(131, 0, 7, 1, 0, 4, 97), "144 0 46 72 0 43" + twos);
        BENCH.due("the next ones", peer.asks(131, 0, 3), "144 0 46 72 0 43" + twos);
        BENCH.due("the last one", peer.asks(131, 0, 3), "160 0 7 73 0 4 2");
        BENCH.due("it is over", peer.asks(131, 0, 3), "192 0 3");
        peer.x.store(1, 97, 1, 40, 2, 0);
        BENCH.due("all", peer.asks(131, 0, 7, 1, 0, 4, 97), "160 0 46 73 0 43" + twos);
        BENCH.due("it is over", peer.asks(131, 0, 3), "192 0 3");
        peer.x.store(1, 97, 1, 0, 2, 0);
        BENCH.due("an empty one", peer.asks(131, 0, 7, 1, 0, 4, 97), "160 0 6 73 0 3");
        peer.x.store(1, 97, 1, 80, 2, 0);
        peer.asks(131, 0, 7, 1, 0, 4, 97);
        BENCH.due("the NAME again begins anew", peer.asks(131, 0, 7, 1, 0, 4, 97), "144 0 46 72 0 43" + twos);
        BENCH.due("the last ones are 40", peer.asks(131, 0, 3), "160 0 46 73 0 43" + twos);
        BENCH.due("BODY and LAST are left aside", peer.asks(131, 0, 14, 72, 0, 4, 1, 1, 0, 4, 97, 73, 0, 3),
            "144 0 46 72 0 43" + twos);
        BENCH.due("a put between", peer.asks(130, 0, 10, 1, 0, 4, 97, 73, 0, 3), "160 0 3");
        BENCH.due("it goes on as it was", peer.asks(131, 0, 3), "160 0 46 73 0 43" + twos);
    }

    private static void illRows() {
        Peer peer = new Peer(7);
        BENCH.due("a byte", peer.asks(131), "192 0 3");
        BENCH.due("two bytes", peer.asks(131, 0), "192 0 3");
        BENCH.due("a length too short", peer.asks(131, 0, 2), "192 0 3");
        BENCH.due("a length too long", peer.asks(131, 0, 4), "192 0 3");
        BENCH.due("a length much too long", peer.asks(131, 1, 3), "192 0 3");
        BENCH.due("another code", peer.asks(0, 0, 3), "192 0 3");
        BENCH.due("another code", peer.asks(3, 0, 11, 1, 0, 4, 97, 73, 0, 4, 1), "192 0 3");
        BENCH.due("another code", peer.asks(128, 0, 3), "192 0 3");
        BENCH.due("an ANSWER is not answered", peer.asks(144, 0, 3), "");
        BENCH.due("an ANSWER is not answered", peer.asks(160, 0, 3), "");
        BENCH.due("an ANSWER is not answered", peer.asks(192, 0, 3), "");
        BENCH.due("an ANSWER is not answered", peer.asks(196, 0, 3), "");
        BENCH.due("an ANSWER is not answered", peer.asks(205, 0, 3), "");
        BENCH.due("one that is ill is not", peer.asks(205), "");
        BENCH.due("one that is ill is not", peer.asks(160, 9, 9, 9), "");
    }

    private static void illHeaders() {
        Peer peer = new Peer(7);
        peer.x.store(1, 97, 1, 0, 0, 0);
        BENCH.due("well", peer.asks(131, 0, 7, 1, 0, 4, 97), "160 0 6 73 0 3");
        BENCH.due("of another kind", peer.asks(131, 0, 11, 1, 0, 4, 97, 2, 0, 4, 97), "192 0 3");
        BENCH.due("of another kind", peer.asks(131, 0, 6, 0, 0, 3), "192 0 3");
        BENCH.due("not filled", peer.asks(131, 0, 8, 1, 0, 4, 97, 0), "192 0 3");
        BENCH.due("not filled", peer.asks(131, 0, 9, 1, 0, 4, 97, 72, 0), "192 0 3");
        BENCH.due("too long", peer.asks(131, 0, 7, 1, 0, 5, 97), "192 0 3");
        BENCH.due("too long", peer.asks(131, 0, 7, 1, 1, 4, 97), "192 0 3");
        BENCH.due("too short", peer.asks(131, 0, 7, 1, 0, 2, 97), "192 0 3");
        BENCH.due("too short", peer.asks(131, 0, 6, 72, 0, 0), "192 0 3");
        BENCH.due("an empty NAME", peer.asks(131, 0, 6, 1, 0, 3), "192 0 3");
        BENCH.due("a NAME of 9", peer.asks(131, 0, 15, 1, 0, 12, 1, 2, 3, 4, 5, 6, 7, 8, 9), "192 0 3");
        BENCH.due("a NAME of 8", peer.asks(131, 0, 14, 1, 0, 11, 1, 2, 3, 4, 5, 6, 7, 8), "196 0 3");
        BENCH.due("a byte 0 in a NAME", peer.asks(131, 0, 9, 1, 0, 6, 97, 0, 97), "192 0 3");
        BENCH.due("a byte 0 first", peer.asks(131, 0, 8, 1, 0, 5, 0, 97), "192 0 3");
        BENCH.due("of 192 bytes above 127", peer.asks(131, 0, 8, 1, 0, 5, 255, 193), "196 0 3");
        peer.x.store(1, 0xFFC1, 2, 0, 0, 0);
        BENCH.due("of 192 bytes above 127", peer.asks(131, 0, 8, 1, 0, 5, 255, 193), "160 0 6 73 0 3");
    }

    private static int statusBehind(boolean isGet, int... answer) {
        Peer peer = new Peer(7);
        peer.x.store(1, 97, 1, 41, 3, 0);
        if (isGet) {
            peer.x.get(1, 98, 1);
        } else {
            peer.x.put(1, 97, 1);
        }
        peer.goon();
        rowsOf(peer);
        peer.asks(answer);
        return peer.x.of(1, 14);
    }

    private static void clientPut() {
        BENCH.due("144", statusBehind(false, 144, 0, 3), 1);
        BENCH.due("160 early", statusBehind(false, 160, 0, 3), 160);
        BENCH.due("192", statusBehind(false, 192, 0, 3), 192);
        BENCH.due("196", statusBehind(false, 196, 0, 3), 196);
        BENCH.due("205", statusBehind(false, 205, 0, 3), 205);
        BENCH.due("a row that asks", statusBehind(false, 131, 0, 3), 1);
        Peer peer = new Peer(7);
        peer.x.store(1, 97, 1, 40, 3, 0);
        peer.x.put(1, 97, 1);
        peer.goon();
        rowsOf(peer);
        peer.data(true, 2, 144, 0, 3);
        BENCH.due("144 without a next row", peer.x.of(1, 14), 144);
        BENCH.due("144 without a next row", rowsOf(peer), "");
        peer.data(true, 2, 160, 0, 3);
        BENCH.due("it does not wait any more", peer.x.of(1, 14), 144);
    }

    private static void clientGet() {
        BENCH.due("144", statusBehind(true, 144, 0, 7, 72, 0, 4, 1), 1);
        BENCH.due("160", statusBehind(true, 160, 0, 7, 73, 0, 4, 1), 160);
        BENCH.due("192", statusBehind(true, 192, 0, 3), 192);
        BENCH.due("196", statusBehind(true, 196, 0, 3), 196);
        BENCH.due("205", statusBehind(true, 205, 0, 3), 205);
        Peer peer = new Peer(7);
        for (int i = 0; i < 6; i++) {
            peer.x.store(1, 65 + i, 1, 1, 1, 1);
        }
        peer.x.get(1, 97, 1);
        peer.goon();
        rowsOf(peer);
        peer.data(true, 2, 160, 0, 7, 73, 0, 4, 1);
        BENCH.due("no room", peer.x.of(1, 14), 205);
        BENCH.due("not there", peer.x.size(1, 97, 1), -1);
        peer.x.get(1, 66, 1);
        peer.goon();
        rowsOf(peer);
        peer.data(true, 2, 160, 0, 8, 73, 0, 5, 1, 2);
        BENCH.due("in place of one", peer.x.of(1, 14), 160);
        BENCH.due("in place of one", peer.x.size(1, 66, 1) * 10 + peer.x.of(1, 13), 26);
        peer.x.get(1, 66, 1);
        peer.goon();
        rowsOf(peer);
        peer.data(true, 2, 144, 0, 12, 72, 0, 4, 1, 73, 0, 5, 8, 9);
        rowsOf(peer);
        peer.data(true, 2, 160, 0, 12, 72, 0, 5, 1, 2, 73, 0, 4, 6);
        BENCH.due("BODY of 144 and LAST of 160 are kept", peer.x.size(1, 66, 1), 2);
        BENCH.due("BODY of 144 and LAST of 160 are kept", peer.x.octet(1, 66, 1, 0) * 10 + peer.x.octet(1, 66, 1, 1), 16);
    }

    private static void clientGetTooMuch() {
        for (int last = 0; last < 2; last++) {
            Peer peer = new Peer(7);
            peer.x.get(1, 97, 1);
            peer.goon();
            rowsOf(peer);
            int[] row = new int[30];
            row[0] = 144;
            row[2] = 30;
            row[3] = 72;
            row[5] = 27;
            for (int i = 0; i < 5; i++) {
                peer.asks(row);
                BENCH.due("on its way", peer.x.of(1, 14), 1);
            }
            peer.asks(last == 0 ? new int[] {160, 0, 6, 73, 0, 3} : new int[] {160, 0, 7, 73, 0, 4, 9});
            BENCH.due("more than 120 bytes", peer.x.of(1, 14), last == 0 ? 160 : 205);
            BENCH.due("more than 120 bytes", peer.x.size(1, 97, 1), last == 0 ? 120 : -1);
        }
    }

    private static void illAnswers() {
        BENCH.due("a byte", statusBehind(true, 160), 1);
        BENCH.due("a length", statusBehind(true, 160, 0, 4), 1);
        BENCH.due("of another kind", statusBehind(true, 160, 0, 6, 74, 0, 3), 1);
        BENCH.due("not filled", statusBehind(true, 160, 0, 4, 73), 1);
        BENCH.due("a NAME that may not be", statusBehind(false, 160, 0, 6, 1, 0, 3), 1);
        BENCH.due("a NAME", statusBehind(false, 160, 0, 7, 1, 0, 4, 97), 160);
    }

    private static void lostOnTheWay() {
        Peer peer = new Peer(7);
        peer.x.store(1, 97, 1, 90, 0, 0);
        peer.x.put(1, 97, 1);
        peer.asks(131, 0, 7, 1, 0, 4, 97);
        peer.asks(2, 0, 10, 1, 0, 4, 98, 72, 0, 3);
        peer.data(false, 128, 9, 9);
        BENCH.due("on its way", peer.x.of(1, 14), 1);
        peer.frame(83);
        BENCH.due("idle", peer.x.of(1, 0) + peer.x.of(1, 14), 0);
        Bench.sent(peer.x, 1);
        Bench.hearFrame(peer.x, 1, 255, 147, 9, 0, 0, 0, 2, 0, 0, 0, 5, 7);
        Bench.sent(peer.x, 1);
        peer.number = 0;
        peer.next = 0;
        BENCH.due("the get is lost, and half a row", peer.asks(131, 0, 3), "192 0 3");
        BENCH.due("the put is lost", peer.asks(130, 0, 6, 73, 0, 3), "192 0 3");
        BENCH.due("it may ask", peer.x.put(1, 97, 1), 1);
    }

    /** What goes on its way is what the object was then. */
    private static void asItIsNow() {
        BeamHouse x = Bench.linked(7);
        x.store(0, 97, 1, 120, 1, 0);
        x.put(0, 97, 1);
        Bench.go(x, 1);
        x.store(0, 97, 1, 50, 2, 0);
        Bench.go(x, 4);
        BENCH.due("put", x.size(1, 97, 1) * 10 + x.octet(1, 97, 1, 119), 1201);
        x.get(0, 97, 1);
        Bench.go(x, 1);
        x.store(1, 97, 1, 50, 3, 0);
        Bench.go(x, 4);
        BENCH.due("get", x.size(0, 97, 1) * 10 + x.octet(0, 97, 1, 119), 1201);
        x.put(0, 97, 1);
        Bench.go(x, 5);
        BENCH.due("put behind get", x.size(1, 97, 1) * 1000 + x.of(0, 14), 120160);
    }
}
