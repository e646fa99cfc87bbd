/** Promises 30 and 31: scripts and simulations. */
public final class TrialTest {
    private static final Checks CHECKS = new Checks("TrialTest");
    private static final Class<IllegalArgumentException> ARGUMENT = IllegalArgumentException.class;

    private TrialTest() {
    }

    public static void main(String[] args) {
        scriptRanges();
        castAndUnderstudies();
        illness();
        slips();
        questions();
        order();
        simulateRanges();
        simulateSteps();
        CHECKS.end();
    }

    /** Two parts with principals 0 and 1, understudy 2 of part 0, a slip for actor 3 on night 19. */
    private static Recorded house() {
        return Views.loaded("Ba1a2a3a4ppc0000c1100u02s190312");
    }

    private static void one(long script, int want) {
        Recorded x = house();
        String before = Views.of(x);
        CHECKS.same("script " + script, want, x.runScript(1, script));
        CHECKS.same("script " + script + " changes nothing", before, Views.of(x));
    }

    private static void two(long script, int want) {
        CHECKS.same("script " + script, want, house().runScript(2, script));
    }

    private static void three(long script, int want) {
        CHECKS.same("script " + script, want, house().runScript(3, script));
    }

    private static void scriptRanges() {
        Recorded x = house();
        CHECKS.refuses("0 commands", x, ARGUMENT, () -> x.runScript(0, 0));
        CHECKS.refuses("4 commands", x, ARGUMENT, () -> x.runScript(4, 0));
        CHECKS.refuses("min commands", x, ARGUMENT, () -> x.runScript(Integer.MIN_VALUE, 0));
        CHECKS.refuses("negative", x, ARGUMENT, () -> x.runScript(1, -1));
        CHECKS.refuses("negative", x, ARGUMENT, () -> x.runScript(3, Long.MIN_VALUE));
        CHECKS.refuses("6 digits", x, ARGUMENT, () -> x.runScript(1, 100000));
        CHECKS.refuses("11 digits", x, ARGUMENT, () -> x.runScript(2, 10000000000L));
        CHECKS.refuses("16 digits", x, ARGUMENT, () -> x.runScript(3, 1000000000000000L));
        CHECKS.refuses("19 digits", x, ARGUMENT, () -> x.runScript(3, Long.MAX_VALUE));
        one(0, 0);
        one(99999, 0);
        two(9999999999L, 0);
        three(999999999999999L, 0);
        two(90020, 0);
        three(900209002090020L, -1);
        three(900209002000000L, 2);
    }

    private static void castAndUnderstudies() {
        one(10219, -1);
        one(10220, 0);
        one(10400, 0);
        two(1031271203L, -1);
        two(1031271103L, 1);
        one(12000, 0);
        one(20300, -1);
        one(20200, 0);
        one(20310, 0);
        one(20301, 0);
        one(20400, 0);
        one(22000, 0);
        one(30200, -1);
        one(30300, 0);
        one(32000, 0);
        one(30900, 0);
        one(30210, 0);
        one(30201, 0);
        two(2030020300L, 1);
        two(3020020200L, -1);
        two(3020030200L, 1);
        two(1031071003L, -1);
    }

    private static void illness() {
        one(40191, -1);
        one(40190, -1);
        one(40192, 0);
        one(40201, 0);
        one(44001, 0);
        two(4003170302L, -1);
        two(4103180301L, -1);
        two(4103180300L, 1);
        three(410314103080300L, -1);
    }

    private static void slips() {
        one(50512, -1);
        one(51913, -1);
        one(52000, 0);
        one(50020, 0);
        one(50004, 0);
        one(60000, -1);
        one(60100, 0);
        one(60010, 0);
        one(60001, 0);
        two(6000060000L, 1);
        two(5051270512L, -1);
        two(6000071900L, -1);
        two(5190260100L, -1);
        three(519020610071903L, 1);
        two(5190271902L, -1);
        Recorded x = Views.loaded("Ba1a2a3pc0000s000213");
        CHECKS.same("a script's slip is of the hour 12", -1, x.runScript(2, 5000170002L));
        Recorded y = Views.loaded("Ba1a2a3pc0000s000211");
        CHECKS.same("a script's slip is of the hour 12", -1, y.runScript(2, 5000170001L));
    }

    private static void questions() {
        one(70000, -1);
        one(70001, 0);
        one(71903, -1);
        one(71900, 0);
        one(72000, 0);
        one(70020, 0);
        one(70004, 0);
        one(80000, -1);
        one(80001, 0);
        one(80002, 0);
        one(80010, 0);
        one(82000, 0);
        one(82001, 0);
        one(90000, -1);
        one(90019, -1);
        one(90099, -1);
        one(90100, 0);
        one(91000, 0);
        two(4103190000L, 1);
        two(4103190001L, -1);
        two(4103170301L, 1);
        Recorded dark = new Recorded();
        CHECKS.same("twenty dark nights", 0, dark.runScript(1, 90019));
        CHECKS.same("twenty dark nights", -1, dark.runScript(1, 90020));
        CHECKS.same("nobody there", 0, dark.runScript(1, 70000));
        CHECKS.same("dark without parts", -1, dark.runScript(1, 81901));
    }

    private static void order() {
        three(100007000090000L, -1);
        three(123457000090000L, 0);
        three(700001234590000L, 1);
        three(700009000012345L, 2);
        Recorded x = house();
        x.set(0, 1);
        x.runScript(1, 10305);
        CHECKS.same("a script is no action", 0, x.undo());
    }

    private static void simulateRanges() {
        Recorded x = house();
        CHECKS.refuses("m 0", x, ARGUMENT, () -> x.simulate(0, 0));
        CHECKS.refuses("m 61", x, ARGUMENT, () -> x.simulate(0, 61));
        CHECKS.refuses("m -1", x, ARGUMENT, () -> x.simulate(0, -1));
        CHECKS.same("no parts", 2000000, new Recorded().simulate(5, 60));
        String before = Views.of(x);
        x.simulate(Long.MIN_VALUE, 60);
        x.simulate(Long.MAX_VALUE, 1);
        CHECKS.same("nothing changes", before, Views.of(x));
        CHECKS.same("no action", "IllegalStateException", Checks.outcome(x::undo));
    }

    /** Does the turns by the public calls, on an archive of the same kind. */
    private static void simulateSteps() {
        for (long seed = -40; seed <= 40; seed++) {
            Recorded x = full();
            long value = seed * 987654321987L;
            for (int m = 1; m <= 60; m++) {
                value = value * 6364136223846793005L + 1442695040888963407L;
                step(x, (int) (value >>> 33));
                CHECKS.same("seed " + seed + " m " + m, 100000 * x.about(3) + x.about(4),
                    full().simulate(seed * 987654321987L, m));
            }
        }
    }

    private static Recorded full() {
        return Views.loaded("Ba1a2a3a4a5a6a7a8a9a0ppppppc0000c1100c2200c3300c4400c5500u06u17u28u39s000612s150908");
    }

    private static void step(Recorded x, int r) {
        int q = r / 8;
        int kind = r % 8;
        if (kind < 2) {
            Checks.outcome(() -> x.cast(q % 6, q / 6 % 10, q / 64 % 20));
        } else if (kind == 2) {
            Checks.outcome(() -> x.understudy(q % 6, q / 6 % 10));
        } else if (kind < 6) {
            Checks.outcome(() -> x.ill(q % 10, q / 16 % 20, q / 512 % 3 > 0));
        } else if (kind == 6) {
            Checks.outcome(() -> x.slip(q % 20, q / 32 % 6, q / 256 % 10, q / 4096 % 24));
        } else {
            Checks.outcome(() -> x.lose(q % 20));
        }
    }
}
