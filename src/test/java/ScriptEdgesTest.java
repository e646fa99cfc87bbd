/** The edges of promise 30: scripts. */
public final class ScriptEdgesTest {
    private static final Checks CHECKS = new Checks("ScriptEdgesTest");
    private static final int NONE = BillArchive.NONE;

    private ScriptEdgesTest() {
    }

    public static void main(String[] args) {
        commandsOfAScript();
        digitsOfAScript();
        groups();
        everyGroup();
        everyEffect();
        castAndUnderstudies();
        illness();
        slips();
        whoPlays();
        darkNights();
        onACopy();
        CHECKS.end();
    }

    /** Three parts, five actors, one slip on night 19; part 2 has an ill principal on night 0. */
    private static Recorded house() {
        Recorded x = Houses.played(3, 5);
        x.understudy(2, 3);
        x.understudy(0, 4);
        x.understudy(0, 3);
        x.slip(19, 1, 4, 12);
        x.slip(6, 1, 4, 13);
        x.ill(2, 0, true);
        x.ill(0, 9, true);
        x.ill(3, 9, true);
        x.ill(4, 9, true);
        return x;
    }

    private static void answers(Recorded x, int want, int n, long script) {
        CHECKS.same("runScript(" + n + ", " + script + ")", want, x.runScript(n, script));
    }

    private static void commandsOfAScript() {
        CHECKS.sentence("number of commands, 1 to 3");
        Recorded x = house();
        answers(x, NONE, 1, 90020);
        answers(x, NONE, 2, 9002090020L);
        answers(x, NONE, 3, 900209002090020L);
        for (int n : new int[] {0, 4, -1, 5, Integer.MIN_VALUE, Integer.MAX_VALUE}) {
            CHECKS.refuses(n + " commands", x, Checks.ARGUMENT, () -> x.runScript(n, 90020));
            CHECKS.refuses(n + " commands", x, Checks.ARGUMENT, () -> x.runScript(n, 0));
            CHECKS.refuses(n + " commands", x, Checks.ARGUMENT, () -> x.runScript(n, -1));
        }
    }

    private static void digitsOfAScript() {
        CHECKS.sentence("the commands, a number of at most 5 * n digits (0 or more)");
        Recorded x = house();
        long beyond = 1;
        for (int n = 1; n <= 3; n++) {
            int commands = n;
            beyond *= 100000;
            answers(x, 0, n, 0);
            answers(x, 0, n, 1);
            answers(x, 0, n, beyond - 1);
            answers(x, n == 1 ? NONE : 1, n, beyond / 10);
            for (long script : new long[] {-1, beyond, beyond + 90020, -beyond, 10 * beyond, 1L << 32,
                    Long.MAX_VALUE, Long.MIN_VALUE, Long.MIN_VALUE + 90020}) {
                if (script < 0 || script >= beyond) {
                    CHECKS.refuses(n + " commands of " + script, x, Checks.ARGUMENT,
                        () -> x.runScript(commands, script));
                }
            }
        }
        answers(x, 0, 3, 1L << 32);
        CHECKS.sentence("if n is out of range, or if script is negative or has more than 5 * n digits");
        CHECKS.refuses("six digits of one command", x, Checks.ARGUMENT, () -> x.runScript(1, 190020));
        answers(x, 0, 2, 190020);
        CHECKS.refuses("eleven digits of two", x, Checks.ARGUMENT, () -> x.runScript(2, 19002090020L));
        answers(x, 0, 3, 19002090020L);
        CHECKS.refuses("sixteen digits of three", x, Checks.ARGUMENT, () -> x.runScript(3, 1900209002090020L));
    }

    private static void groups() {
        CHECKS.sentence("and the first command is the highest group of the number "
            + "(with zeros before it, if it has fewer digits).");
        Recorded x = house();
        answers(x, NONE, 1, 90019);
        answers(x, 0, 2, 90019);
        answers(x, 0, 3, 90019);
        answers(x, 0, 3, 9001990019L);
        CHECKS.sentence("Returns the index, from 0, of the first command that fails; NONE if all succeed.");
        long good = 90019;
        long bad = 90000;
        for (int fails = 0; fails < 8; fails++) {
            boolean first = (fails & 1) != 0;
            boolean second = (fails & 2) != 0;
            boolean third = (fails & 4) != 0;
            long two = (first ? bad : good) * 100000 + (second ? bad : good);
            answers(x, first ? 0 : second ? 1 : NONE, 2, two);
            answers(x, first ? 0 : second ? 1 : third ? 2 : NONE, 3, two * 100000 + (third ? bad : good));
        }
    }

    /** Does by the public calls what a group asks for; false if the command fails. */
    private static boolean succeeds(Recorded x, int group) {
        int d2 = group / 1000 % 10;
        int d3 = group / 100 % 10;
        int d4 = group / 10 % 10;
        int d5 = group % 10;
        String outcome = switch (group / 10000) {
            case 1 -> x.outcome(a -> a.cast(d2, d3, 10 * d4 + d5));
            case 2 -> d4 + d5 > 0 ? "Exception" : x.outcome(a -> a.understudy(d2, d3));
            case 3 -> d4 + d5 > 0 ? "Exception" : x.outcome(a -> a.release(d2, d3));
            case 4 -> d5 > 1 ? "Exception" : x.outcome(a -> a.ill(d2, 10 * d3 + d4, d5 == 1));
            case 5 -> x.outcome(a -> a.slip(10 * d2 + d3, d4, d5, 12));
            case 6 -> d4 + d5 > 0 ? "Exception" : x.outcome(a -> a.lose(10 * d2 + d3));
            case 7 -> outcomeIs(x.outcome(a -> a.played(10 * d2 + d3, d4)), d5);
            case 8 -> d4 > 0 ? "Exception" : outcomeIs(x.outcome(a -> a.night(10 * d2 + d3, 0)), d5);
            case 9 -> d2 + d3 > 0 || x.about(3) > 10 * d4 + d5 ? "Exception" : "0";
            default -> "Exception";
        };
        return !outcome.endsWith("Exception");
    }

    private static String outcomeIs(String outcome, int want) {
        return outcome.equals("" + want) ? outcome : "Exception";
    }

    private static void everyGroup() {
        CHECKS.sentence("The commands 1 to 6 fail if the method would throw an exception; commands with nights, "
            + "parts, actors or slips that do not exist fail, and so does any other group "
            + "(also one with another digit where a 0 is written, or a b above 1).");
        // With understudies for all parts even a night that is not there could seem to be played.
        Recorded understudies = Houses.sized(2, 4);
        understudies.understudy(0, 2);
        understudies.understudy(1, 3);
        Recorded[] houses = {new Recorded(), house(), understudies, Houses.full()};
        for (Recorded made : houses) {
            Recorded asked = made.twin();
            Recorded done = made.twin();
            for (int group = 0; group < 100000; group++) {
                asked = asked.isUsedUp() ? made.twin() : asked;
                int before = done.callsMade();
                boolean succeeds = succeeds(done, group);
                answers(asked, succeeds ? NONE : 0, 1, group);
                // A command that changes something, or the last call, makes another twin needed.
                if (succeeds && group < 70000 || before + 2 > Recorded.MOST_CALLS) {
                    done = made.twin();
                }
            }
        }
    }

    private static void everyEffect() {
        CHECKS.sentence("A script has 1 to 3 commands; each is a group of five decimal digits d1 to d5");
        Recorded made = house();
        Recorded asked = made.twin();
        for (int group = 10000; group < 70000; group++) {
            asked = asked.callsMade() + 100 > Recorded.MOST_CALLS ? made.twin() : asked;
            if (asked.runScript(1, group) == NONE) {
                Recorded done = made.twin();
                succeeds(done, group);
                for (int n = 0; n < 20; n++) {
                    answers(asked, NONE, 2, group * 100000L + 80000 + 100 * n + done.night(n, 0));
                    int p = (group + n) % 3;
                    if (done.night(n, 0) == 0) {
                        answers(asked, NONE, 2, group * 100000L + 70000 + 100 * n + 10 * p + done.played(n, p));
                    }
                }
                answers(asked, NONE, 2, group * 100000L + 90000 + done.about(3));
                answers(asked, done.about(3) == 0 ? NONE : 1, 2, group * 100000L + 90000 + Math.max(0,
                    done.about(3) - 1));
            }
        }
    }

    private static void castAndUnderstudies() {
        CHECKS.sentence("1 p a n n: cast(p, a, nn). 2 p a 0 0: understudy(p, a). 3 p a 0 0: release(p, a).");
        Recorded x = house();
        answers(x, NONE, 1, 12419);
        answers(x, 0, 1, 12420);
        answers(x, 0, 1, 13400);
        answers(x, 0, 1, 12500);
        answers(x, NONE, 1, 22400);
        answers(x, 0, 1, 22410);
        answers(x, 0, 1, 22401);
        answers(x, 0, 1, 22300);
        answers(x, 0, 1, 22500);
        answers(x, 0, 1, 23400);
        answers(x, NONE, 1, 30300);
        answers(x, 0, 1, 30310);
        answers(x, 0, 1, 30301);
        answers(x, 0, 1, 30100);
        answers(x, 0, 1, 30500);
        answers(x, 0, 1, 33300);
        answers(x, NONE, 2, 2000020100L);
        answers(x, 2, 3, 200002010020200L);
        answers(x, NONE, 3, 304002000020100L);
        answers(x, 1, 2, 3030030300L);
        Recorded full = Houses.full();
        answers(full, 0, 1, 25000);
        answers(full, NONE, 2, 3590025000L);
        answers(full, 1, 2, 3590025800L);
        answers(full, NONE, 1, 15919);
    }

    private static void illness() {
        CHECKS.sentence("4 a n n b: ill(a, nn, b is 1).");
        Recorded x = house();
        answers(x, NONE, 1, 44191);
        answers(x, NONE, 1, 44190);
        answers(x, 0, 1, 44192);
        answers(x, 0, 1, 44199);
        answers(x, 0, 1, 44201);
        answers(x, 0, 1, 44990);
        answers(x, 0, 1, 45000);
        answers(x, 0, 1, 45001);
        answers(x, NONE, 2, 4218171823L);
        answers(x, NONE, 2, 4200070022L);
        answers(x, NONE, 2, 4009080900L);
        answers(x, NONE, 3, 400014000070000L);
    }

    private static void slips() {
        CHECKS.sentence("5 n n p a: slip(nn, p, a, 12). 6 k k 0 0: lose(kk).");
        Recorded x = house();
        answers(x, NONE, 1, 51924);
        answers(x, 0, 1, 52000);
        answers(x, 0, 1, 59900);
        answers(x, 0, 1, 50030);
        answers(x, 0, 1, 50005);
        answers(x, NONE, 1, 60000);
        answers(x, NONE, 1, 60100);
        answers(x, 0, 1, 60200);
        answers(x, 0, 1, 61000);
        answers(x, 0, 1, 69900);
        answers(x, 0, 1, 60010);
        answers(x, 0, 1, 60001);
        answers(x, 1, 2, 6010060100L);
        answers(x, NONE, 2, 6000060000L);
        answers(x, 2, 3, 600006000060000L);
        answers(x, NONE, 2, 5191371913L);
        answers(x, 1, 2, 5061370613L);
        answers(x, NONE, 2, 5191360200L);
        Recorded full = Houses.full();
        answers(full, 0, 1, 50000);
        answers(full, NONE, 2, 6190051959L);
        answers(full, 2, 3, 619005195950000L);
        answers(full, 0, 1, 62000);
        answers(full, 1, 2, 6190061900L);
    }

    private static void whoPlays() {
        CHECKS.sentence("7 n n p a: succeeds if a plays p on the night nn.");
        Recorded x = house();
        answers(x, NONE, 1, 70000);
        answers(x, NONE, 1, 71914);
        answers(x, 0, 1, 71911);
        answers(x, 0, 1, 72014);
        answers(x, 0, 1, 79914);
        answers(x, 0, 1, 71933);
        answers(x, 0, 1, 71915);
        answers(x, NONE, 1, 70023);
        answers(x, 0, 1, 70022);
        answers(x, 0, 1, 70911);
        answers(x, 0, 1, 70922);
    }

    private static void darkNights() {
        CHECKS.sentence("8 n n 0 b: succeeds if the night nn is dark with b as 1, is not with b as 0.");
        Recorded x = house();
        answers(x, NONE, 1, 80901);
        answers(x, 0, 1, 80900);
        answers(x, NONE, 1, 81900);
        answers(x, 0, 1, 81901);
        answers(x, 0, 1, 80902);
        answers(x, 0, 1, 80911);
        answers(x, 0, 1, 81910);
        answers(x, 0, 1, 82000);
        answers(x, 0, 1, 82001);
        answers(x, 0, 1, 89900);
        CHECKS.sentence("9 0 0 n n: succeeds if at most nn nights are dark.");
        answers(x, NONE, 1, 90001);
        answers(x, 0, 1, 90000);
        answers(x, NONE, 1, 90020);
        answers(x, NONE, 1, 90099);
        answers(x, 0, 1, 90101);
        answers(x, 0, 1, 91001);
        answers(x, NONE, 2, 4009090000L);
        Recorded dark = new Recorded();
        answers(dark, 0, 1, 90019);
        answers(dark, NONE, 1, 90020);
        answers(dark, NONE, 1, 81901);
        answers(dark, 0, 1, 70000);
    }

    private static void onACopy() {
        CHECKS.sentence("Runs a script on a copy of the state.");
        Recorded x = Houses.full();
        x.save(0);
        x.set(1, 7);
        x.save(1);
        String before = Views.of(x);
        answers(x, NONE, 3, 104003590025000L);
        answers(x, NONE, 3, 400016000070006L);
        answers(x, NONE, 3, 619005195971959L);
        answers(x, 1, 3, 619000000060000L);
        CHECKS.same("the state stays", before, Views.of(x));
        answers(x, NONE, 3, 619005195971959L);
        CHECKS.same("and is the same for the next script", before, Views.of(x));
    }
}
