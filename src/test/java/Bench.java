import java.util.ArrayList;
import java.util.List;

/** Counts answers that are not due, and makes and reads frames by its own code, apart from the class's. */
final class Bench {
    static final int FIND = 63;
    static final int HERE = 191;
    static final int CALL = 147;
    static final int YES = 115;
    static final int END = 83;
    static final int NO = 31;

    private final String name;
    private int checks;
    private int wrong;

    Bench(String name) {
        this.name = name;
    }

    void due(String what, long got, long want) {
        due(what, Long.toString(got), Long.toString(want));
    }

    void due(String what, String got, String want) {
        checks++;
        if (!got.equals(want)) {
            wrong++;
        }
        if (!got.equals(want) && wrong <= 20) {
            System.out.println(name + ": " + what + " answered " + got + ", due is " + want);
        }
    }

    void ends() {
        System.out.println(name + ": " + checks + " answers, " + wrong + " not as due");
        if (wrong != 0 || checks == 0) {
            System.exit(1);
        }
    }

    /** The check by polynomial division with the highest bit first, over mirrored bytes. */
    static int check(int[] bytes, int n) {
        int c = 0xFFFF;
        for (int i = 0; i < n; i++) {
            c ^= Integer.reverse(bytes[i]) >>> 24 << 8;
            for (int k = 0; k < 8; k++) {
                c = (c & 0x8000) != 0 ? (c << 1 ^ 0x1021) & 0xFFFF : c << 1 & 0xFFFF;
            }
        }
        return ~(Integer.reverse(c) >>> 16) & 0xFFFF;
    }

    static int[] wrap(int... frame) {
        int[] checked = new int[frame.length + 2];
        System.arraycopy(frame, 0, checked, 0, frame.length);
        int sum = check(frame, frame.length);
        checked[frame.length] = sum & 255;
        checked[frame.length + 1] = sum >> 8;
        return escape(checked);
    }

    static int[] escape(int... checked) {
        List<Integer> out = new ArrayList<>();
        out.add(192);
        for (int octet : checked) {
            if (octet == 192 || octet == 193 || octet == 125) {
                out.add(125);
                out.add(octet ^ 32);
            } else {
                out.add(octet);
            }
        }
        out.add(193);
        return out.stream().mapToInt(Integer::intValue).toArray();
    }

    static int[] join(int[]... rows) {
        int n = 0;
        for (int[] row : rows) {
            n += row.length;
        }
        int[] all = new int[n];
        int at = 0;
        for (int[] row : rows) {
            System.arraycopy(row, 0, all, at, row.length);
            at += row.length;
        }
        return all;
    }

    static int[] address(int a) {
        return new int[] {a & 255, a >> 8 & 255, a >> 16 & 255, a >>> 24};
    }

    /** Lays bytes on the tape; device 3 must have nothing on its air, for taking that empties the tape. */
    static void lay(BeamHouse x, int... bytes) {
        if (x.take(3) != 0) {
            throw new IllegalStateException("device 3 sends");
        }
        for (int i = 0; i < bytes.length; i += 20) {
            int[] five = new int[5];
            for (int k = 0; k < 20; k++) {
                five[k / 4] |= (i + k < bytes.length ? bytes[i + k] : 0) << 24 - 8 * (k % 4);
            }
            x.feed(five[0], five[1], five[2], five[3], five[4]);
        }
    }

    static int hear(BeamHouse x, int d, int... bytes) {
        lay(x, bytes);
        return x.hear(d, 0, bytes.length);
    }

    static int hearFrame(BeamHouse x, int d, int... frame) {
        return hear(x, d, wrap(frame));
    }

    static int[] onTape(BeamHouse x) {
        int[] bytes = new int[x.tape(0, 0)];
        for (int i = 0; i < bytes.length; i++) {
            bytes[i] = x.bend(i, 0);
        }
        return bytes;
    }

    /** All frames on a device's air, which is taken; ones that are ill are told as such. */
    static List<int[]> sent(BeamHouse x, int d) {
        List<int[]> frames = new ArrayList<>();
        List<Integer> bytes = new ArrayList<>();
        while (x.take(d) > 0) {
            for (int octet : onTape(x)) {
                bytes.add(octet);
            }
        }
        List<Integer> frame = new ArrayList<>();
        for (int i = 0; i < bytes.size(); i++) {
            int octet = bytes.get(i);
            if (octet == 192) {
                frame.clear();
            } else if (octet == 193) {
                frames.add(unchecked(frame));
            } else if (octet == 125) {
                i++;
                frame.add(bytes.get(i) ^ 32);
            } else {
                frame.add(octet);
            }
        }
        return frames;
    }

    private static int[] unchecked(List<Integer> frame) {
        int[] all = frame.stream().mapToInt(Integer::intValue).toArray();
        int n = all.length - 2;
        int sum = check(all, n);
        if (all[n] != (sum & 255) || all[n + 1] != sum >> 8) {
            throw new IllegalStateException("a frame is ill");
        }
        return java.util.Arrays.copyOf(all, n);
    }

    /** The frames as text, bytes by blanks, frames by bars. */
    static String told(List<int[]> frames) {
        StringBuilder text = new StringBuilder();
        for (int[] frame : frames) {
            if (text.length() > 0) {
                text.append(" | ");
            }
            for (int i = 0; i < frame.length; i++) {
                text.append(i == 0 ? "" : " ").append(frame[i]);
            }
        }
        return text.toString();
    }

    static String air(BeamHouse x, int d) {
        return told(sent(x, d));
    }

    /** Device 0 is first and device 1 second of link 1, with that window. */
    static BeamHouse linked(int window) {
        BeamHouse x = new BeamHouse();
        x.call(0, 2, window);
        x.talk(0, 1, 1);
        return x;
    }

    /** Ticks of device 0, each with all that is said then. */
    static void go(BeamHouse x, int ticks) {
        for (int i = 0; i < ticks; i++) {
            x.tick(0);
            x.talk(0, 1, 20);
        }
    }

    static long name(String text) {
        long name = 0;
        for (int i = 0; i < text.length(); i++) {
            name = name << 8 | text.charAt(i);
        }
        return name;
    }
}
