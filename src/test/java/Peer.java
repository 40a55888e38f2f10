import java.util.ArrayList;
import java.util.List;

/** A first one of link 5, address 9, made by hand: it says to device 1 what a device would never say. */
final class Peer {
    final BeamHouse x = new BeamHouse();
    int number;
    int next;

    Peer(int window) {
        Bench.hearFrame(x, 1, 255, 147, 9, 0, 0, 0, 2, 0, 0, 0, 5, window);
        Bench.sent(x, 1);
    }

    /** DATA with the next number. */
    void data(boolean turn, int... part) {
        frame(number << 1 | (turn ? 16 : 0) | next << 5, part);
        number = number + 1 & 7;
    }

    void frame(int kind, int... bytes) {
        Bench.hearFrame(x, 1, Bench.join(new int[] {11, kind}, bytes));
    }

    void goon() {
        frame(17 | next << 5);
    }

    /** What device 1 has sent, and it is known to be there from now on. */
    String takes() {
        List<int[]> frames = Bench.sent(x, 1);
        for (int[] frame : frames) {
            if ((frame[1] & 1) == 0 && (frame[1] >> 1 & 7) == next) {
                next = next + 1 & 7;
            }
        }
        return Bench.told(frames);
    }

    /** Says a row in parts, with all credit that may be told; answers the bytes of the rows that come. */
    String asks(int... row) {
        for (int at = 0; at < row.length; at += 31) {
            int n = Math.min(31, row.length - at);
            int[] part = new int[n + 1];
            part[0] = at + n < row.length ? 128 + 2 : 2;
            System.arraycopy(row, at, part, 1, n);
            data(at + n >= row.length, part);
        }
        List<Integer> came = new ArrayList<>();
        for (int k = 0; k < 8; k++) {
            List<int[]> frames = Bench.sent(x, 1);
            boolean isData = false;
            for (int[] frame : frames) {
                if ((frame[1] & 1) == 0) {
                    isData = true;
                    next = next + 1 & 7;
                    for (int i = 3; i < frame.length; i++) {
                        came.add(frame[i]);
                    }
                }
            }
            if (!isData) {
                break;
            }
            goon();
        }
        return Bench.told(List.of(came.stream().mapToInt(Integer::intValue).toArray()));
    }
}
