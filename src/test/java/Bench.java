import java.util.ArrayList;
import java.util.Arrays;
import java.util.List;

/** Counts answers that are not due, and makes and reads frames by its own code, apart from the class's. */
final class Bench {
    private final String name;
    private String sentence = "";
    private int sentenceFrom;
    private int checks;
    private int wrong;

    Bench(String name) {
        this.name = name;
    }

    /** The document's words that the answers from here on are about; words without an answer are no test. */
    void sentence(String quote) {
        closesSentence();
        sentence = quote;
        sentenceFrom = checks;
    }

    void due(String what, long got, long want) {
        due(what, Long.toString(got), Long.toString(want));
    }

    void due(String what, String got, String want) {
        checks++;
        if (!got.equals(want)) {
            wrong++;
        }
        if (!got.equals(want) && wrong <= 20) {
            System.out.println(name + ": \"" + sentence + "\": " + what + " answered " + got + ", due is " + want);
        }
    }

    /** What lies on a device's air, frame by frame, each without its check; it is taken. Few calls, if it is right. */
    void dueAir(String what, BeamHouse x, int d, String want) {
        if (x.of(d, 10) > 1000) {
            due(what, told(sent(x, d)), want);
        } else {
            x.take(d);
            due(what, isOnTape(x, want) ? want : told(frames(onTape(x))), want);
        }
    }

    /** All frames with their own checks have one check: so each is also looked at up to its own check. */
    private static boolean isOnTape(BeamHouse x, String frames) {
        int[] all = new int[0];
        for (String frame : split(frames)) {
            int[] next = join(all, wrap(bytes(frame)));
            int cut = all.length + escape(bytes(frame)).length - 1;
            if (x.tape(1, cut) != check(next, cut)) {
                return false;
            }
            all = next;
        }
        return x.tape(0, 0) == all.length && x.tape(1, all.length) == check(all, all.length);
    }

    /** The frame is heard, but all that of() tells of the device stays, but for how many were heard. */
    void dueNothing(String what, BeamHouse x, int d, int... frame) {
        int[] facts = facts(x, d);
        facts[11]++;
        due(what + " is heard", hearFrame(x, d, frame), 1);
        due(what + " is nothing", text(facts(x, d)), text(facts));
    }

    void ends() {
        closesSentence();
        System.out.println(name + ": " + checks + " answers, " + wrong + " not as due");
        if (wrong != 0 || checks == 0) {
            System.exit(1);
        }
    }

    private void closesSentence() {
        if (!sentence.isEmpty() && checks == sentenceFrom) {
            wrong++;
            System.out.println(name + ": \"" + sentence + "\" has no answer that is due");
        }
    }

    /** The check by polynomial division with the highest bit first, over mirrored bytes. */
    static int check(int[] bytes, int n) {
        int c = 0xFFFF;
        for (int i = 0; i < n; i++) {
            c ^= Integer.reverse(bytes[i]) >>> 24 << 8;
            for (int k = 0; k < 8; k++) {
                c = (c & 0x8000) != 0 ? (c << 1 ^ 0x1021) & 0xFFFF : c << 1 & 0xFFFF;
            }
        }
        return ~(Integer.reverse(c) >>> 16) & 0xFFFF;
    }

    static int[] checked(int... frame) {
        int[] checked = Arrays.copyOf(frame, frame.length + 2);
        int sum = check(frame, frame.length);
        checked[frame.length] = sum & 255;
        checked[frame.length + 1] = sum >> 8;
        return checked;
    }

    static int[] wrap(int... frame) {
        return escape(checked(frame));
    }

    static int[] escape(int... checked) {
        List<Integer> out = new ArrayList<>();
        out.add(192);
        for (int octet : checked) {
            if (isSpecial(octet)) {
                out.add(125);
                out.add(octet ^ 32);
            } else {
                out.add(octet);
            }
        }
        out.add(193);
        return array(out);
    }

    static boolean isSpecial(int octet) {
        return octet == 192 || octet == 193 || octet == 125;
    }

    static int[] array(List<Integer> list) {
        return list.stream().mapToInt(Integer::intValue).toArray();
    }

    static int[] join(int[]... rows) {
        int n = 0;
        for (int[] row : rows) {
            n += row.length;
        }
        int[] all = new int[n];
        int at = 0;
        for (int[] row : rows) {
            System.arraycopy(row, 0, all, at, row.length);
            at += row.length;
        }
        return all;
    }

    static int[] times(int n, int... bytes) {
        int[][] rows = new int[n][];
        Arrays.fill(rows, bytes);
        return join(rows);
    }

    static int[] change(int[] bytes, int i, int octet) {
        int[] changed = bytes.clone();
        changed[i] = octet;
        return changed;
    }

    static int[] address(int a) {
        return new int[] {a & 255, a >> 8 & 255, a >> 16 & 255, a >>> 24};
    }

    static int[] find(int asker, int slots, int slot) {
        return join(new int[] {255, 63}, address(asker), new int[] {slots, slot});
    }

    static int[] here(int address, int asker, int slot) {
        return join(new int[] {254, 191}, address(address), address(asker), new int[] {slot});
    }

    static int[] call(int caller, int called, int link, int window) {
        return join(new int[] {255, 147}, address(caller), address(called), new int[] {link, window});
    }

    static int[] yes(int link, int called, int caller, int window) {
        return join(new int[] {link * 2, 115}, address(called), address(caller), new int[] {window});
    }

    /** The n-th draw of a seed below a number, by numbers that do not go round. */
    static int draw(int seed, int n, int below) {
        long next = seed & 0xFFFFFFFFL;
        for (int k = 0; k < n; k++) {
            next = (next * 1103515245L + 12345L) % 0x100000000L;
        }
        return (int) (next / 65536 % below);
    }

    /** Lays bytes on the tape; device 3 must have nothing on its air, for taking that empties the tape. */
    static void lay(BeamHouse x, int... bytes) {
        if (x.take(3) != 0) {
            throw new IllegalStateException("device 3 sends");
        }
        for (int i = 0; i < bytes.length; i += 20) {
            int[] five = new int[5];
            for (int k = 0; k < 20; k++) {
                five[k / 4] |= (i + k < bytes.length ? bytes[i + k] : 0) << 24 - 8 * (k % 4);
            }
            x.feed(five[0], five[1], five[2], five[3], five[4]);
        }
    }

    static int hear(BeamHouse x, int d, int... bytes) {
        lay(x, bytes);
        return x.hear(d, 0, bytes.length);
    }

    static int hearFrame(BeamHouse x, int d, int... frame) {
        return hear(x, d, wrap(frame));
    }

    static int[] onTape(BeamHouse x) {
        int[] bytes = new int[x.tape(0, 0)];
        for (int i = 0; i < bytes.length; i++) {
            bytes[i] = x.bend(i, 0);
        }
        return bytes;
    }

    /** All frames on a device's air, which is taken. */
    static List<int[]> sent(BeamHouse x, int d) {
        int[] bytes = new int[0];
        while (x.take(d) > 0) {
            bytes = join(bytes, onTape(x));
        }
        return frames(bytes);
    }

    private static List<int[]> frames(int[] bytes) {
        List<int[]> frames = new ArrayList<>();
        List<Integer> frame = new ArrayList<>();
        for (int i = 0; i < bytes.length; i++) {
            if (bytes[i] == 192) {
                frame.clear();
            } else if (bytes[i] == 193) {
                frames.add(unchecked(array(frame)));
            } else if (bytes[i] == 125) {
                i++;
                frame.add(bytes[i] ^ 32);
            } else {
                frame.add(bytes[i]);
            }
        }
        return frames;
    }

    private static int[] unchecked(int[] checked) {
        int[] frame = Arrays.copyOf(checked, checked.length - 2);
        if (!Arrays.equals(checked(frame), checked)) {
            throw new IllegalStateException("a frame is ill");
        }
        return frame;
    }

    /** The frames as text, bytes by blanks, frames by bars. */
    static String told(List<int[]> frames) {
        StringBuilder text = new StringBuilder();
        for (int[] frame : frames) {
            text.append(text.length() > 0 ? " | " : "").append(text(frame));
        }
        return text.toString();
    }

    static String text(int... bytes) {
        StringBuilder text = new StringBuilder();
        for (int octet : bytes) {
            text.append(text.length() > 0 ? " " : "").append(octet);
        }
        return text.toString();
    }

    static int[] bytes(String text) {
        return text.isEmpty() ? new int[0] : Arrays.stream(text.split(" ")).mapToInt(Integer::parseInt).toArray();
    }

    static String[] split(String frames) {
        return frames.isEmpty() ? new String[0] : frames.split(" \\| ");
    }

    /** All that of() tells of a device. */
    static int[] facts(BeamHouse x, int d) {
        int[] facts = new int[17];
        for (int what = 0; what < facts.length; what++) {
            facts[what] = x.of(d, what);
        }
        return facts;
    }

    static String allFacts(BeamHouse x) {
        return text(join(facts(x, 0), facts(x, 1), facts(x, 2), facts(x, 3)));
    }

    /** Device 0 is first and device 1 second of link 1, with that window. */
    static BeamHouse linked(int window) {
        BeamHouse x = new BeamHouse();
        x.call(0, 2, window);
        x.talk(0, 1, 1);
        return x;
    }

    /** A device 0 in that state (0 to 4), with nothing on its air; its address is 1, its link 1, the other's address 2. */
    static BeamHouse inState(int state) {
        BeamHouse x = state == 3 ? linked(7) : new BeamHouse();
        if (state == 1) {
            x.discover(0, 6);
        } else if (state == 2) {
            x.call(0, 2, 7);
            x.take(0);
        } else if (state == 4) {
            hearFrame(x, 0, call(2, 1, 1, 7));
            x.take(0);
        }
        return x;
    }

    /** Makes the device 0 of inState() idle, with nothing on its air; how many draws there were is the answer. */
    static int leaveState(BeamHouse x, int state) {
        hearFrame(x, 0, state == 4 ? 3 : 2, state == 4 ? 83 : 31);
        ticks(x, 0, state == 1 ? 7 : state == 2 ? 4 : 0);
        x.take(0);
        return state == 2 || state == 3 ? 1 : 0;
    }

    /** Ticks of device 0, each with all that is said then. */
    static void go(BeamHouse x, int ticks) {
        for (int i = 0; i < ticks; i++) {
            x.tick(0);
            x.talk(0, 1, 20);
        }
    }

    static int ticks(BeamHouse x, int d, int n) {
        int state = x.of(d, 0);
        for (int i = 0; i < n; i++) {
            state = x.tick(d);
        }
        return state;
    }

    static long name(String text) {
        long name = 0;
        for (int i = 0; i < text.length(); i++) {
            name = name << 8 | text.charAt(i);
        }
        return name;
    }
}
