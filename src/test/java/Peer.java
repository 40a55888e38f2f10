import java.util.Arrays;

/** The other side of a link, made by hand: it says to a device what no device would ever say. */
final class Peer {
    final BeamHouse x = new BeamHouse();
    final int d;
    int number;
    int next;
    private final Bench bench;
    private final int window;
    private int head = 11;

    private Peer(Bench bench, int window, int d) {
        this.bench = bench;
        this.window = window;
        this.d = d;
        links();
    }

    /** A first one of link 5, address 9, for device 1, which is second. */
    Peer(Bench bench, int window) {
        this(bench, window, 1);
    }

    /** A second one of link 1, address 9, for device 0, which is first. */
    static Peer ofFirst(Bench bench, int window) {
        return new Peer(bench, window, 0);
    }

    /** Also when the device has become idle: the link begins anew then. */
    void links() {
        if (d == 0) {
            int link = x.call(0, 9, window);
            head = link * 2;
            Bench.hearFrame(x, 0, Bench.yes(link, 9, 1, window));
        } else {
            Bench.hearFrame(x, 1, Bench.call(9, 2, 5, window));
        }
        x.take(d);
        number = 0;
        next = 0;
    }

    /** DATA with the next number. */
    void data(boolean turn, int... part) {
        int kind = number << 1 | next << 5;
        number = number + 1 & 7;
        if (turn) {
            turn(kind | 16, part);
        } else {
            frame(kind, part);
        }
    }

    void frame(int kind, int... bytes) {
        Bench.hearFrame(x, d, Bench.join(new int[] {head, kind}, bytes));
    }

    void goon() {
        turn(17 | next << 5);
    }

    /** A first one uses its turn with a tick. */
    private void turn(int kind, int... bytes) {
        frame(kind, bytes);
        if (d == 0) {
            x.tick(0);
        }
    }

    /** What the device has sent; its DATA are known to be there from now on. */
    void due(String what, String frames) {
        bench.dueAir(what, x, d, frames);
        for (String frame : Bench.split(frames)) {
            next = next + ((Bench.bytes(frame)[1] & 1) == 0 ? 1 : 0) & 7;
        }
    }

    /** Takes all that the device sent with its turn; it is known to be there from now on. */
    void takes() {
        x.take(d);
        next = x.of(d, 4) + Math.min(window, x.of(d, 6)) & 7;
    }

    /** A row in parts, with all credit that may be told. */
    void row(boolean turn, int... row) {
        for (int at = 0; at < row.length; at += 31) {
            int end = Math.min(row.length, at + 31);
            int first = end < row.length ? 128 + 2 : 2;
            data(turn && end == row.length, Bench.join(new int[] {first}, Arrays.copyOfRange(row, at, end)));
        }
    }

    /** Says a row and hears all that is answered: the bytes of the rows that come are due. */
    void dueAnswer(String what, String rows, int... row) {
        row(true, row);
        dueRows(what, rows);
    }

    /** The bytes of all rows that the device sends are due, with as many turns as they need. */
    void dueRows(String what, String due) {
        int[] rows = new int[0];
        boolean isData = true;
        for (int k = 0; k < 8 && isData; k++) {
            isData = false;
            for (int[] frame : Bench.sent(x, d)) {
                if ((frame[1] & 1) == 0) {
                    isData = true;
                    next = next + 1 & 7;
                    rows = Bench.join(rows, Arrays.copyOfRange(frame, 3, frame.length));
                }
            }
            if (isData) {
                goon();
            }
        }
        bench.due(what, Bench.text(rows), due);
    }
}
