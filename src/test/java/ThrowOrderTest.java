/**
 * Which exception is thrown if several apply, and that nothing changes behind any of them: each call that
 * names two or more, with all its arguments at their edges, on both sides, in every combination.
 */
public final class ThrowOrderTest {
    private static final Checks CHECKS = new Checks("ThrowOrderTest");
    private static final Class<? extends RuntimeException> NOTHING = null;

    /** The same call with its arguments chosen. */
    private interface One {
        long answer(Recorded x);
    }

    /** A call with up to four arguments. */
    private interface Many {
        long answer(Recorded x, int[] arguments);
    }

    /** The values of one argument that are tried: those that are right, and those that bring an exception. */
    private record Argument(Class<? extends RuntimeException> thrown, int[] right, int[] wrong) {
        int count() {
            return right.length + wrong.length;
        }

        int value(int i) {
            return i < right.length ? right[i] : wrong[i - right.length];
        }

        boolean isWrong(int i) {
            return i >= right.length;
        }
    }

    private ThrowOrderTest() {
    }

    public static void main(String[] args) {
        CHECKS.sentence("If several exceptions apply to a call, the one that its description names first is thrown. "
            + "A call that throws an exception changes nothing.");
        texts();
        questions();
        understudies();
        actors();
        slips();
        wouldBe();
        oneKind();
        slots();
        CHECKS.end();
    }

    private static Argument index(int count) {
        int[] wrong = {-1, count};
        return new Argument(Checks.INDEX, count > 0 ? new int[] {0, count - 1} : new int[0], wrong);
    }

    private static Argument argument(int first, int last) {
        return new Argument(Checks.ARGUMENT, new int[] {first, last}, new int[] {first - 1, last + 1});
    }

    private static Argument notNegative() {
        return new Argument(Checks.ARGUMENT, new int[] {0, Integer.MAX_VALUE}, new int[] {-1, Integer.MIN_VALUE});
    }

    /** An actor, or NONE. */
    private static Argument principal(int actors) {
        return new Argument(Checks.INDEX, new int[] {BillArchive.NONE, actors - 1}, new int[] {-2, actors});
    }

    private static void all(String name, Recorded x, Class<? extends RuntimeException> otherwise, Many call,
            Argument... arguments) {
        String before = Views.of(x);
        int combinations = 1;
        for (Argument argument : arguments) {
            combinations *= argument.count();
        }
        for (int i = 0; i < combinations; i++) {
            int[] values = new int[arguments.length];
            StringBuilder label = new StringBuilder(name);
            Class<? extends RuntimeException> due = otherwise;
            int rest = i;
            for (int k = 0; k < values.length; k++) {
                int chosen = rest % arguments[k].count();
                rest /= arguments[k].count();
                values[k] = arguments[k].value(chosen);
                label.append(' ').append(values[k]);
                // The exceptions stand in the same order in all descriptions: index, argument, state.
                if (arguments[k].isWrong(chosen) && due != Checks.INDEX) {
                    due = arguments[k].thrown();
                }
            }
            one(label.toString(), x.twin(), before, due, y -> call.answer(y, values));
        }
    }

    private static void one(String label, Recorded x, String before, Class<? extends RuntimeException> due, One call) {
        String outcome = Checks.outcome(() -> call.answer(x));
        if (due == NOTHING) {
            CHECKS.isTrue(label + " throws " + outcome, !outcome.endsWith("Exception"));
        } else {
            CHECKS.same(label, due.getSimpleName(), outcome);
            CHECKS.same(label + " changes nothing", before, Views.of(x));
        }
    }

    private static void texts() {
        Recorded x = Houses.small();
        all("append", x, NOTHING, (y, v) -> y.append(v[0]), argument(0, 255));
        Views.type(x, "B" + "p".repeat(119));
        all("append to a full text", x, Checks.STATE, (y, v) -> y.append(v[0]), argument(0, 255));
        Views.type(x, "B" + "p".repeat(118) + "x");
        CHECKS.refuses("load", x, Checks.STATE, x::load);
    }

    private static void questions() {
        Recorded x = Houses.full();
        all("about", x, NOTHING, (y, v) -> y.about(v[0]), argument(0, 6));
        all("played", x, NOTHING, (y, v) -> y.played(v[0], v[1]), index(20), index(6));
        all("bill", x, NOTHING, (y, v) -> y.bill(v[0], v[1], v[2]), index(20), index(6), argument(0, 3));
        all("night", x, NOTHING, (y, v) -> y.night(v[0], v[1]), index(20), argument(0, 4));
        all("actor", x, NOTHING, (y, v) -> y.actor(v[0], v[1]), index(10), argument(0, 5));
        all("ranked", x, NOTHING, (y, v) -> y.ranked(v[0], v[1]), index(6), notNegative());
        all("found", x, NOTHING, (y, v) -> y.found(v[0], v[1]), index(20), argument(0, 4));
        all("setting", x, NOTHING, (y, v) -> y.setting(v[0]), argument(0, 1));
        Recorded none = new Recorded();
        all("played of none", none, NOTHING, (y, v) -> y.played(v[0], v[1]), index(20), index(0));
        all("bill of none", none, NOTHING, (y, v) -> y.bill(v[0], v[1], v[2]), index(20), index(0), argument(0, 3));
        all("actor of none", none, NOTHING, (y, v) -> y.actor(v[0], v[1]), index(0), argument(0, 5));
        all("ranked of none", none, NOTHING, (y, v) -> y.ranked(v[0], v[1]), index(0), argument(0, 3));
        all("found of none", none, NOTHING, (y, v) -> y.found(v[0], v[1]), index(0), argument(0, 4));
    }

    private static void understudies() {
        Recorded x = Houses.full();
        all("a fifth understudy", x, Checks.STATE, (y, v) -> y.understudy(v[0], v[1]), index(6), index(10));
        all("cast", x, NOTHING, (y, v) -> y.cast(v[0], v[1], v[2]), index(6), principal(10),
            index(20));
        Recorded few = Houses.sized(6, 10);
        all("understudy", few, NOTHING, (y, v) -> y.understudy(v[0], v[1]), index(6), index(10));
        all("release of none", few, Checks.STATE, (y, v) -> y.release(v[0], v[1]), index(6), index(10));
        for (int p = 0; p < 6; p++) {
            few.understudy(p, 0);
            few.understudy(p, 9);
        }
        all("understudy again", few, Checks.STATE, (y, v) -> y.understudy(v[0], v[1]), index(6), index(10));
        all("release", few, NOTHING, (y, v) -> y.release(v[0], v[1]), index(6), index(10));
        Recorded none = new Recorded();
        all("understudy of none", none, NOTHING, (y, v) -> y.understudy(v[0], v[1]), index(0), index(0));
        all("release from none", none, NOTHING, (y, v) -> y.release(v[0], v[1]), index(0), index(0));
        all("cast of none", none, NOTHING, (y, v) -> y.cast(v[0], v[1], v[2]), index(0),
            principal(0), index(20));
    }

    private static void actors() {
        Recorded x = Houses.sized(6, 9);
        all("addActor", x, NOTHING, (y, v) -> y.addActor(v[0]), argument(0, 9));
        all("ill", x, NOTHING, (y, v) -> y.ill(v[0], v[1], true), index(9), index(20));
        all("well", x, NOTHING, (y, v) -> y.ill(v[0], v[1], false), index(9), index(20));
        x.addActor(0);
        all("an eleventh actor", x, Checks.STATE, (y, v) -> y.addActor(v[0]), argument(0, 9));
        all("a seventh part", x, Checks.STATE, (y, v) -> y.addPart());
    }

    private static void slips() {
        Recorded x = Houses.small();
        x.slip(0, 0, 2, 1);
        all("slip", x, NOTHING, (y, v) -> y.slip(v[0], v[1], v[2], v[3]), index(20), index(2), index(4),
            argument(0, 23));
        all("lose", x, NOTHING, (y, v) -> y.lose(v[0]), index(1));
        for (int k = 1; k < 20; k++) {
            x.slip(k, k % 2, k % 4, k);
        }
        all("a 21st slip", x, Checks.STATE, (y, v) -> y.slip(v[0], v[1], v[2], v[3]), index(20), index(2), index(4),
            argument(0, 23));
        Recorded none = new Recorded();
        all("slip for none", none, NOTHING, (y, v) -> y.slip(v[0], v[1], v[2], v[3]), index(20), index(0), index(0),
            argument(0, 23));
        all("lose of none", none, NOTHING, (y, v) -> y.lose(v[0]), index(0));
    }

    private static void wouldBe() {
        Recorded x = Houses.full();
        all("find", x, NOTHING, (y, v) -> y.find(v[0], v[1], v[2]), index(6), index(10),
            notNegative());
        all("together", x, NOTHING, (y, v) -> y.together(v[0], v[1]), index(10), index(10));
        all("longest", x, NOTHING, (y, v) -> y.longest(v[0], v[1]), index(6), index(10));
        all("ifIll", x, NOTHING, (y, v) -> y.ifIll(v[0], v[1], v[2]), index(10), index(20), argument(0, 1));
        all("bestUnderstudy", x, NOTHING, (y, v) -> y.bestUnderstudy(v[0]), index(6));
        Recorded none = new Recorded();
        all("find of none", none, NOTHING, (y, v) -> y.find(v[0], v[1], v[2]), index(0), index(0), argument(0, 1));
        all("ifIll of none", none, NOTHING, (y, v) -> y.ifIll(v[0], v[1], v[2]), index(0), index(20), argument(0, 1));
    }

    private static void oneKind() {
        Recorded x = Houses.full();
        all("set 0", x, NOTHING, (y, v) -> y.set(0, v[0]), argument(0, 99));
        all("set 1", x, NOTHING, (y, v) -> y.set(1, v[0]), argument(0, 9));
        all("set", x, NOTHING, (y, v) -> y.set(v[0], v[1] * 10), argument(0, 1),
            new Argument(Checks.ARGUMENT, new int[] {0}, new int[] {-1, 10}));
        all("runScript", x, NOTHING, (y, v) -> y.runScript(v[0], 0), argument(1, 3));
        all("a negative script", x, Checks.ARGUMENT, (y, v) -> y.runScript(v[0], -1), argument(1, 3));
        all("simulate", x, NOTHING, (y, v) -> y.simulate(-1, v[0]), argument(1, 60));
    }

    private static void slots() {
        Recorded x = Houses.full();
        all("save", x, NOTHING, (y, v) -> y.save(v[0]), index(2));
        all("restore of nothing", x, Checks.STATE, (y, v) -> y.restore(v[0]), index(2));
        x.save(0);
        x.set(0, 1);
        x.save(1);
        all("restore", x, NOTHING, (y, v) -> y.restore(v[0]), index(2));
        Recorded none = new Recorded();
        CHECKS.refuses("undo of nothing", none, Checks.STATE, none::undo);
    }
}
