import java.math.BigInteger;

/** The edges of promise 31: simulations, each turn of them, and the long overflow. */
public final class SimulateEdgesTest {
    private static final Checks CHECKS = new Checks("SimulateEdgesTest");
    private static final BigInteger ROUND = BigInteger.ONE.shiftLeft(64);
    private static final BigInteger FACTOR = new BigInteger("6364136223846793005");
    private static final BigInteger ADDED = new BigInteger("1442695040888963407");
    private static final int MOST_Q = Integer.MAX_VALUE / 8;

    private SimulateEdgesTest() {
    }

    public static void main(String[] args) {
        turns();
        seeds();
        overflow();
        castTurns();
        understudyTurns();
        illTurns();
        slipTurns();
        loseTurns();
        leftOut();
        answer();
        onACopy();
        CHECKS.end();
    }

    /** All the most but slips; each actor has another fame, so that the takings tell who plays. */
    private static Recorded house() {
        Recorded x = new Recorded();
        int[] fame = {1, 2, 4, 8, 3, 9, 5, 7, 6, 0};
        for (int a = 0; a < 10; a++) {
            x.addActor(fame[a]);
        }
        for (int p = 0; p < 6; p++) {
            x.addPart();
            x.cast(p, p, 0);
            x.understudy(p, (p + 6) % 10);
            x.understudy(p, (p + 7) % 10);
        }
        for (int k = 0; k < 10; k++) {
            x.slip(2 * k, k % 6, 6 + k % 4, k);
        }
        return x;
    }

    private static long answerOf(Recorded x) {
        return 100000L * x.about(3) + x.about(4);
    }

    private static void turns() {
        CHECKS.sentence("number of turns, 1 to 60");
        Recorded x = house();
        CHECKS.isTrue("one", x.simulate(0, 1) >= 0);
        CHECKS.isTrue("sixty", x.simulate(0, 60) >= 0);
        CHECKS.sentence("if m is out of range");
        for (int m : new int[] {0, 61, -1, Integer.MIN_VALUE, Integer.MAX_VALUE}) {
            CHECKS.refuses(m + " turns", x, Checks.ARGUMENT, () -> x.simulate(0, m));
            CHECKS.refuses(m + " turns", x, Checks.ARGUMENT, () -> x.simulate(Long.MIN_VALUE, m));
        }
    }

    private static long asLong(BigInteger value) {
        BigInteger low = value.mod(ROUND);
        return (low.testBit(63) ? low.subtract(ROUND) : low).longValueExact();
    }

    /** The turns of a simulation, worked out without any long, done by the public calls. */
    private static void simulates(Recorded made, long seed, int m) {
        Recorded done = made.twin();
        BigInteger x = BigInteger.valueOf(seed).mod(ROUND);
        for (int i = 0; i < m; i++) {
            x = x.multiply(FACTOR).add(ADDED).mod(ROUND);
            turn(done, x.shiftRight(33).intValueExact());
        }
        CHECKS.same("seed " + seed + ", " + m + " turns", answerOf(done), made.twin().simulate(seed, m));
    }

    private static String turn(Recorded x, int r) {
        int q = r >> 3;
        Recorded.Call call = switch (r & 7) {
            case 0, 1 -> a -> a.cast(q % 6, q / 6 % 10, q / 64 % 20);
            case 2 -> a -> a.understudy(q % 6, q / 6 % 10);
            case 3, 4, 5 -> a -> a.ill(q % 10, q / 16 % 20, q / 512 % 3 > 0);
            case 6 -> a -> a.slip(q % 20, q / 32 % 6, q / 256 % 10, q / 4096 % 24);
            default -> a -> a.lose(q % 20);
        };
        return x.outcome(call);
    }

    private static void seeds() {
        CHECKS.sentence("any long");
        Recorded x = house();
        long[] seeds = {0, 1, -1, 2, -2, Integer.MAX_VALUE, Integer.MIN_VALUE, 1L << 32, 1L << 33, 1L << 62,
            Long.MAX_VALUE, Long.MAX_VALUE - 1, Long.MIN_VALUE, Long.MIN_VALUE + 1};
        for (long seed : seeds) {
            for (int m : new int[] {1, 2, 3, 13, 59, 60}) {
                simulates(x, seed, m);
                simulates(Houses.full(), seed, m);
                simulates(Houses.played(2, 3), seed, m);
            }
        }
    }

    private static void overflow() {
        CHECKS.sentence("Each turn first replaces x by x * 6364136223846793005L + 1442695040888963407L (with long "
            + "overflow), and r = (int) (x >>> 33) is computed.");
        Recorded x = house();
        long[] reached = {0, -1, Long.MAX_VALUE, Long.MIN_VALUE, (1L << 33) - 1, 1L << 33, -(1L << 33), -(1L << 33) - 1};
        for (long first : reached) {
            long seed = seedFor(BigInteger.valueOf(first));
            CHECKS.same("x behind one turn", first, seed * 6364136223846793005L + 1442695040888963407L);
            for (int m : new int[] {1, 2, 60}) {
                simulates(x, seed, m);
            }
        }
        Recorded y = house();
        y.lose(7);
        CHECKS.same("the greatest r: lose(15), which is not there", answerOf(y.twin()), y.simulate(seedOf(7, MOST_Q), 1));
        Recorded z = house();
        z.cast(0, 0, 0);
        CHECKS.same("the least r: cast(0, 0, 0)", answerOf(z), house().simulate(seedOf(0, 0), 1));
    }

    /** The seed that becomes this x by one turn. */
    private static long seedFor(BigInteger x) {
        return asLong(x.subtract(ADDED).multiply(FACTOR.modInverse(ROUND)));
    }

    /** A seed whose first turn is of this kind, with this q; the bits below it are not looked at. */
    private static long seedOf(int kind, int q) {
        BigInteger r = BigInteger.valueOf(8L * q + kind);
        return seedFor(r.shiftLeft(33).add(BigInteger.valueOf(q % 2 == 0 ? 0 : (1L << 33) - 1)));
    }

    /** One turn of this kind and q must answer as the call, made on another archive, leaves it. */
    private static void oneTurn(String label, Recorded made, int kind, int q, Recorded.Call call) {
        Recorded done = made.twin();
        done.outcome(call);
        CHECKS.same(label + ", kind " + kind + ", q " + q, answerOf(done), made.twin().simulate(seedOf(kind, q), 1));
    }

    private static void castTurns() {
        CHECKS.sentence("0 and 1: cast(q % 6, q / 6 % 10, q / 64 % 20).");
        Recorded x = house();
        int different = 0;
        for (int q = 0; q < 64 * 21; q += 5) {
            int p = q % 6;
            int a = q / 6 % 10;
            int n = q / 64 % 20;
            oneTurn("cast", x, 0, q, y -> y.cast(p, a, n));
            oneTurn("cast", x, 1, q, y -> y.cast(p, a, n));
            different += x.twin().simulate(seedOf(0, q), 1) == answerOf(x.twin()) ? 0 : 1;
        }
        CHECKS.isTrue("most turns make a difference: " + different, different > 100);
        oneTurn("the last part", x, 0, 5, y -> y.cast(5, 0, 0));
        oneTurn("the first part again", x, 0, 6, y -> y.cast(0, 1, 0));
        oneTurn("the last actor", x, 1, 59, y -> y.cast(5, 9, 0));
        oneTurn("the first actor again", x, 1, 60, y -> y.cast(0, 0, 0));
        oneTurn("still the first night", x, 0, 63, y -> y.cast(3, 0, 0));
        oneTurn("the second night", x, 0, 64, y -> y.cast(4, 0, 1));
        oneTurn("the last night", x, 0, 1279, y -> y.cast(1, 3, 19));
        oneTurn("the first night again", x, 0, 1280, y -> y.cast(2, 3, 0));
        oneTurn("the greatest q", x, 1, MOST_Q, y -> y.cast(3, 2, 3));
    }

    private static void understudyTurns() {
        CHECKS.sentence("2: understudy(q % 6, q / 6 % 10).");
        Recorded x = Houses.sized(6, 10);
        for (int p = 0; p < 6; p++) {
            x.cast(p, p, p);
            x.slip(p, p, p + 4, 0);
        }
        Recorded one = Houses.sized(1, 10);
        for (int q = 0; q <= 61; q++) {
            int p = q % 6;
            int a = q / 6 % 10;
            oneTurn("understudy", x, 2, q, y -> y.understudy(p, a));
            oneTurn("understudy", one, 2, q, y -> y.understudy(p, a));
        }
        CHECKS.same("the lowest actor", 400, one.simulate(seedOf(2, 0), 1));
        CHECKS.same("the last actor", 20 * (20 + 27), one.simulate(seedOf(2, 54), 1));
        CHECKS.same("the last part, which is not there", 2000000, one.simulate(seedOf(2, 59), 1));
        CHECKS.same("the lowest actor again", 400, one.simulate(seedOf(2, 60), 1));
    }

    private static void illTurns() {
        CHECKS.sentence("3 to 5: ill(q % 10, q / 16 % 20, q / 512 % 3 > 0).");
        Recorded x = house();
        for (int n = 0; n < 20; n += 3) {
            x.ill(n % 6, n, true);
        }
        for (int q = 0; q < 1600; q += 3) {
            int a = q % 10;
            int n = q / 16 % 20;
            boolean is = q / 512 % 3 > 0;
            oneTurn("ill", x, 3 + q % 9 / 3, q, y -> y.ill(a, n, is));
        }
        oneTurn("the last well one", x, 3, 511, y -> y.ill(1, 11, false));
        oneTurn("the first ill one", x, 4, 512, y -> y.ill(2, 12, true));
        oneTurn("of 1", x, 5, 1023, y -> y.ill(3, 3, true));
        oneTurn("of 2", x, 3, 1024, y -> y.ill(4, 4, true));
        oneTurn("the last of 2", x, 5, 1535, y -> y.ill(5, 15, true));
        oneTurn("well again", x, 5, 1536, y -> y.ill(6, 16, false));
        oneTurn("night 0", x, 3, 15 + 512, y -> y.ill(7, 12, true));
        oneTurn("night 19", x, 4, 319 + 640, y -> y.ill(9, 19, true));
        oneTurn("night 0 again", x, 4, 320 + 320, y -> y.ill(0, 0, true));
        oneTurn("the greatest q", x, 5, MOST_Q, y -> y.ill(5, 15, true));
    }

    private static void slipTurns() {
        CHECKS.sentence("6: slip(q % 20, q / 32 % 6, q / 256 % 10, q / 4096 % 24).");
        Recorded x = house();
        for (int n = 0; n < 20; n++) {
            x.lose(0);
            x.slip(n, n % 6, 6 + n % 4, 6 + n % 12);
        }
        for (int q = 0; q < 4096 * 25; q += 211) {
            int n = q % 20;
            int p = q / 32 % 6;
            int a = q / 256 % 10;
            int hour = q / 4096 % 24;
            oneTurn("slip", x, 6, q, y -> y.slip(n, p, a, hour));
        }
        oneTurn("the last night", x, 6, 19, y -> y.slip(19, 0, 0, 0));
        oneTurn("the first night again", x, 6, 20, y -> y.slip(0, 0, 0, 0));
        oneTurn("still part 0", x, 6, 31, y -> y.slip(11, 0, 0, 0));
        oneTurn("part 5", x, 6, 191, y -> y.slip(11, 5, 0, 0));
        oneTurn("part 0 again", x, 6, 192, y -> y.slip(12, 0, 0, 0));
        oneTurn("the last actor", x, 6, 2559, y -> y.slip(19, 1, 9, 0));
        oneTurn("the first actor again", x, 6, 2560, y -> y.slip(0, 2, 0, 0));
        Recorded hours = Views.loaded("Ba1a9pc0000s000111");
        for (int hour = 0; hour <= 24; hour++) {
            boolean plays = hour % 24 >= 11;
            int q = hourTurn(hour);
            CHECKS.same("hour " + hour, 19 * 23 + (plays ? 23 : 47), hours.simulate(seedOf(6, q), 1));
        }
        oneTurn("the greatest q", x, 6, MOST_Q, y -> y.slip(15, 1, 5, 15));
    }

    /** A q of this hour (24 is 0 again), the night 0, the part 0 and the actor 0. */
    private static int hourTurn(int hour) {
        for (int q = 4096 * hour; q < 4096 * (hour + 1); q++) {
            if (q % 20 == 0 && q / 32 % 6 == 0 && q / 256 % 10 == 0) {
                return q;
            }
        }
        throw new AssertionError("no such q");
    }

    private static void loseTurns() {
        CHECKS.sentence("7: lose(q % 20).");
        Recorded x = Houses.full();
        for (int q = 0; q <= 40; q++) {
            int k = q % 20;
            oneTurn("lose", x, 7, q, y -> y.lose(k));
        }
        Recorded one = Views.loaded("Ba1a9ps190100s030000");
        CHECKS.same("two nights are played", 18 * 100000 + 47 + 23, one.simulate(seedOf(7, 2), 1));
        CHECKS.same("without the first slip", 19 * 100000 + 23, one.simulate(seedOf(7, 0), 1));
        CHECKS.same("without the last slip", 19 * 100000 + 47, one.simulate(seedOf(7, 1), 1));
        CHECKS.same("slip 19 is not there", 18 * 100000 + 47 + 23, one.simulate(seedOf(7, 19), 1));
        CHECKS.same("slip 0 again", 19 * 100000 + 23, one.simulate(seedOf(7, 20), 1));
        oneTurn("the greatest q", x, 7, MOST_Q, y -> y.lose(15));
    }

    private static void leftOut() {
        CHECKS.sentence("What would throw an exception is left out.");
        Recorded none = new Recorded();
        Recorded few = Views.loaded("Ba5a1pc0000u00s000023");
        Recorded full = Houses.full();
        for (int kind = 0; kind < 8; kind++) {
            CHECKS.same("nothing is there", 2000000, none.simulate(seedOf(kind, 0), 1));
            CHECKS.same("nothing is there", 2000000, none.simulate(seedOf(kind, MOST_Q), 1));
        }
        long before = answerOf(few);
        CHECKS.same("part 1", before, few.simulate(seedOf(0, 1), 1));
        CHECKS.same("actor 2", before, few.simulate(seedOf(0, 12), 1));
        CHECKS.isTrue("actor 1", before != few.simulate(seedOf(0, 6), 1));
        CHECKS.same("understudy again", before, few.simulate(seedOf(2, 0), 1));
        CHECKS.same("actor 2 is ill", before, few.simulate(seedOf(3, 512), 1));
        CHECKS.same("slip 1", before, few.simulate(seedOf(7, 1), 1));
        before = answerOf(full);
        CHECKS.same("the 21st slip", before, full.simulate(seedOf(6, 4096 * 23), 1));
        CHECKS.same("a fifth understudy", before, full.simulate(seedOf(2, 0), 1));
        CHECKS.same("the turns go on behind what is left out", answerOfSome(full), full.simulate(99, 60));
    }

    /** Does the turns of the seed 99, of which some are left out. */
    private static long answerOfSome(Recorded made) {
        Recorded done = made.twin();
        BigInteger x = BigInteger.valueOf(99);
        int thrown = 0;
        for (int i = 0; i < 60; i++) {
            x = x.multiply(FACTOR).add(ADDED).mod(ROUND);
            thrown += turn(done, x.shiftRight(33).intValueExact()).endsWith("Exception") ? 1 : 0;
        }
        CHECKS.isTrue("some turns are left out: " + thrown, thrown > 0 && thrown < 60);
        return answerOf(done);
    }

    private static void answer() {
        CHECKS.sentence("Returns 100000 * (the dark nights at the end) + (the takings of all nights at the end).");
        Recorded x = new Recorded();
        CHECKS.same("twenty dark nights", 2000000, x.simulate(5, 60));
        for (int a = 0; a < 6; a++) {
            x.addActor(9);
            x.addPart();
            x.cast(a, a, 0);
        }
        x.set(0, 99);
        x.set(1, 9);
        CHECKS.same("no dark night", 20 * (99 + 9 * 54), x.simulate(seedOf(7, 0), 1));
        CHECKS.same("one dark night", 100000 + 19 * (99 + 9 * 54), x.simulate(seedOf(3, 540), 1));
        x.set(0, 0);
        x.set(1, 0);
        CHECKS.same("no takings", 0, x.simulate(seedOf(7, 0), 1));
    }

    private static void onACopy() {
        CHECKS.sentence("Simulates m turns on a copy of the state.");
        Recorded x = house();
        x.save(0);
        x.set(0, 5);
        x.save(1);
        String before = Views.of(x);
        int first = x.simulate(123456789, 60);
        CHECKS.same("the state stays", before, Views.of(x));
        CHECKS.same("and is the same for the next simulation", first, x.simulate(123456789, 60));
        CHECKS.isTrue("which is not the state's", first != answerOf(x));
    }
}
