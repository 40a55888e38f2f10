import java.util.Random;

/** Any calls in any state: none throws, all end, limits hold, and the same calls give the same answers. */
public final class HostileTest {
    private static final Bench BENCH = new Bench("HostileTest");
    private static final int[] ODD = {Integer.MIN_VALUE, -1, 0, 1, 2, 3, 4, 7, 8, 16, 20, 21, 120, 121, 999, 1000,
        1001, Integer.MAX_VALUE};

    private static int linked;

    public static void main(String[] args) {
        for (int seed = 0; seed < 800; seed++) {
            int first = run(seed);
            BENCH.due("the same calls of " + seed, run(seed), first);
        }
        for (int seed = 0; seed < 200; seed++) {
            badAir(seed);
        }
        BENCH.due("most links of bad air last: " + linked, linked > 150 ? 1 : 0, 1);
        BENCH.ends();
    }

    private static int run(int seed) {
        Random random = new Random(seed);
        BeamHouse x = new BeamHouse();
        int sum = 0;
        for (int k = 0; k < 200; k++) {
            int answer = random.nextInt(3) == 0 ? odd(x, random) : likely(x, random);
            sum = sum * 31 + answer;
        }
        for (int d = 0; d < 4; d++) {
            limit("parts", x.of(d, 6), 24);
            limit("rows", x.of(d, 7), 8);
            limit("owed", x.of(d, 9), 4);
            limit("air", x.of(d, 10), 4000);
            limit("objects", x.of(d, 13), 6);
            limit("list", x.of(d, 16), 8);
            limit("sent from", x.of(d, 4), 7);
            limit("taken", x.of(d, 5), 7);
            for (int what = 0; what <= 16; what++) {
                sum = sum * 31 + x.of(d, what);
            }
        }
        return sum;
    }

    private static void limit(String what, int got, int most) {
        BENCH.due(what + " " + got + " in its limits", got >= 0 && got <= most ? 1 : 0, 1);
    }

    private static int any(Random random) {
        return random.nextInt(3) == 0 ? random.nextInt() : ODD[random.nextInt(ODD.length)];
    }

    private static int odd(BeamHouse x, Random random) {
        int a = any(random);
        int b = any(random);
        int c = any(random);
        long name = random.nextBoolean() ? random.nextLong() : random.nextInt(3);
        switch (random.nextInt(18)) {
            case 0: return x.device(a, b, c);
            case 1: return x.feed(a, b, c, any(random), any(random));
            case 2: return x.bend(a, b);
            case 3: return x.take(a);
            case 4: return x.hear(a, b, c);
            case 5: return x.talk(a, b, c);
            case 6: return x.tick(a);
            case 7: return x.discover(a, b);
            case 8: return x.listed(a, b);
            case 9: return x.call(a, b, c);
            case 10: return x.end(a);
            case 11: return x.store(a, name, b, c, any(random), any(random));
            case 12: return x.put(a, name, b);
            case 13: return x.get(a, name, b);
            case 14: return x.size(a, name, b);
            case 15: return x.octet(a, name, b, c);
            case 16: return x.of(a, b);
            default: return x.tape(a, b);
        }
    }

    private static int likely(BeamHouse x, Random random) {
        int d = random.nextInt(4);
        int other = random.nextInt(4);
        long name = 97 + random.nextInt(9);
        switch (random.nextInt(16)) {
            case 0: return x.call(d, other + 1, 1 + random.nextInt(7));
            case 1: return x.store(d, name, 1, random.nextInt(121), random.nextInt(), random.nextInt());
            case 2: return x.put(d, name, 1);
            case 3: return x.get(d, name, 1);
            case 4: return x.discover(d, 6);
            case 5: return random.nextInt(8) == 0 ? x.end(d) : 0;
            case 6: return x.take(d);
            case 7: return x.hear(d, 0, x.tape(0, 0));
            case 8: return x.bend(random.nextInt(40), random.nextInt(4));
            case 9: return hearFrame(x, d, random);
            case 10: case 11: return x.talk(d, other, 1 + random.nextInt(3));
            default: return x.tick(d);
        }
    }

    /** A frame that is right by its check, of a link that there may be, with any bytes. */
    private static int hearFrame(BeamHouse x, int d, Random random) {
        int[] frame = new int[2 + random.nextInt(12)];
        for (int i = 0; i < frame.length; i++) {
            frame[i] = random.nextInt(256);
        }
        int link = x.of(d, 2);
        frame[0] = random.nextInt(4) == 0 ? 254 + random.nextInt(2) : link * 2 + random.nextInt(2);
        if (random.nextInt(3) == 0) {
            frame[1] = new int[] {63, 191, 147, 115, 83, 31}[random.nextInt(6)];
        } else if (random.nextBoolean()) {
            frame[1] = x.of(d, 5) << 1 | random.nextInt(2) << 4 | x.of(d, 4) << 5;
        }
        x.take(d == 3 ? 2 : 3);
        int[] bytes = Bench.wrap(frame);
        int at = x.tape(0, 0);
        for (int i = 0; i < bytes.length; i += 20) {
            int[] five = new int[5];
            for (int k = 0; k < 20 && i + k < bytes.length; k++) {
                five[k / 4] |= bytes[i + k] << 24 - 8 * (k % 4);
            }
            x.feed(five[0], five[1], five[2], five[3], five[4]);
        }
        return x.hear(d, at, bytes.length);
    }

    /** Bytes bent, lost and doubled on the way: an object comes whole, or it is not told to be done. */
    private static void badAir(int seed) {
        Random random = new Random(seed);
        BeamHouse x = new BeamHouse();
        x.store(0, 97, 1, 120, seed, 7);
        x.store(1, 98, 1, 110, seed, 5);
        x.call(0, 2, 1 + seed % 7);
        x.talk(0, 1, 1);
        x.put(0, 97, 1);
        x.put(1, 98, 1);
        for (int k = 0; k < 75; k++) {
            x.tick(0);
            passes(x, 0, 1, random);
            passes(x, 1, 0, random);
        }
        boolean isLinked = x.of(0, 0) == 3 && x.of(1, 0) == 4;
        linked += isLinked ? 1 : 0;
        BENCH.due("put of the first one, " + seed, x.of(0, 14), isLinked ? 160 : x.of(0, 14));
        BENCH.due("put of the second one, " + seed, x.of(1, 14), isLinked ? 160 : x.of(1, 14));
        BENCH.due("there, if done", x.size(1, 97, 1), x.of(0, 14) == 160 ? 120 : x.size(1, 97, 1));
        for (int i = 0; i < 120 && x.size(1, 97, 1) > 0; i += 7) {
            BENCH.due("its bytes", x.octet(1, 97, 1, i), i * 7 + seed & 255);
        }
        for (int i = 0; i < 110 && x.size(0, 98, 1) > 0; i += 7) {
            BENCH.due("its bytes", x.octet(0, 98, 1, i), i * 5 + seed & 255);
        }
    }

    private static void passes(BeamHouse x, int from, int to, Random random) {
        int n = x.take(from);
        int fate = random.nextInt(8);
        if (fate == 0 || n == 0) {
            return;
        }
        if (fate == 1) {
            x.bend(random.nextInt(n), 1 << random.nextInt(8));
        }
        x.hear(to, 0, n);
        if (fate == 2) {
            x.hear(to, 0, n);
        }
    }
}
