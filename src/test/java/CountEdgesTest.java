import java.util.function.Supplier;

/** The edges of "Terms": how many there are of each, which of them exist, and the ranges. */
public final class CountEdgesTest {
    private static final Checks CHECKS = new Checks("CountEdgesTest");

    /** A call with one argument that is looked at. */
    private interface One {
        long answer(Recorded x, int i);
    }

    private CountEdgesTest() {
    }

    public static void main(String[] args) {
        none();
        calls();
        nights();
        partsExist();
        actorsExist();
        mostPartsAndActors();
        slipsExist();
        slots();
        fame();
        atFirst();
        understudies();
        slips();
        settings();
        CHECKS.end();
    }

    /** The numbers 0 to count - 1 are there; those below and above are not, and nothing changes by them. */
    private static void exist(String name, Supplier<Recorded> made, int count, One call) {
        for (int i = 0; i < count; i += Math.max(1, count - 1)) {
            Recorded x = made.get();
            int asked = i;
            String outcome = Checks.outcome(() -> call.answer(x, asked));
            CHECKS.isTrue(name + " " + i + " of " + count + ": " + outcome, !outcome.endsWith("Exception"));
        }
        refuseOutside(name, made.get(), -1, count, Checks.INDEX, call);
    }

    private static void refuseOutside(String name, Recorded x, int below, int above,
            Class<? extends RuntimeException> want, One call) {
        for (int i : new int[] {below, above, Integer.MIN_VALUE, Integer.MAX_VALUE}) {
            CHECKS.refuses(name + " " + i, x, want, () -> call.answer(x, i));
        }
    }

    private static void none() {
        CHECKS.sentence("`NONE = -1`: There is no such result; as a principal, none.");
        CHECKS.same("NONE", -1, BillArchive.NONE);
        Recorded x = Houses.played(1, 1);
        CHECKS.same("as a principal", 0, x.cast(0, -1, 0));
        CHECKS.same("none", -1, x.bill(19, 0, 0));
        CHECKS.same("dark", 20, x.about(3));
    }

    private static void calls() {
        CHECKS.sentence("An object is used for at most 512 calls after it has been made");
        Recorded x = Houses.full();
        while (x.callsMade() < 510) {
            x.set(0, x.callsMade() % 100);
        }
        CHECKS.same("the 511th call", 13, x.undo());
        CHECKS.same("the 512th call", 8, x.setting(0));
        CHECKS.isTrue("that was the last one", x.isUsedUp());
    }

    private static void nights() {
        CHECKS.sentence("There are 20 nights, numbered from 0.");
        Supplier<Recorded> made = Houses::small;
        exist("played on", made, 20, (x, n) -> x.played(n, 1));
        exist("bill of", made, 20, (x, n) -> x.bill(n, 0, 0));
        exist("bill of", made, 20, (x, n) -> x.bill(n, 1, 1));
        exist("bill of", made, 20, (x, n) -> x.bill(n, 1, 2));
        exist("bill of", made, 20, (x, n) -> x.bill(n, 1, 3));
        for (int what = 0; what <= 4; what++) {
            int asked = what;
            exist("night", made, 20, (x, n) -> x.night(n, asked));
        }
        exist("cast from", made, 20, (x, n) -> x.cast(1, 3, n));
        exist("cast nobody from", made, 20, (x, n) -> x.cast(1, BillArchive.NONE, n));
        exist("ill on", made, 20, (x, n) -> x.ill(3, n, true));
        exist("well on", made, 20, (x, n) -> x.ill(3, n, false));
        exist("slip for", made, 20, (x, n) -> x.slip(n, 1, 3, 23));
        exist("if ill on", made, 20, (x, n) -> x.ifIll(0, n, 0));
        exist("if ill on", made, 20, (x, n) -> x.ifIll(0, n, 1));
    }

    private static void partsExist() {
        CHECKS.sentence("There are at most 6 parts, and at most 10 actors, each numbered from 0.");
        for (int count : new int[] {0, 1, 2, 5, 6}) {
            Supplier<Recorded> made = () -> Houses.played(count, 10);
            exist("played part", made, count, (x, p) -> x.played(19, p));
            for (int what = 0; what <= 3; what++) {
                int asked = what;
                exist("bill of part", made, count, (x, p) -> x.bill(0, p, asked));
            }
            exist("ranked of part", made, count, (x, p) -> x.ranked(p, 0));
            exist("cast of part", made, count, (x, p) -> x.cast(p, 9, 0));
            exist("understudy of part", made, count, (x, p) -> x.understudy(p, 9));
            exist("release from part", () -> withUnderstudies(count, 1), count, (x, p) -> x.release(p, 0));
            exist("slip for part", made, count, (x, p) -> x.slip(0, p, 0, 0));
            exist("find part", made, count, (x, p) -> x.find(p, 0, 0));
            exist("longest of part", made, count, (x, p) -> x.longest(p, 0));
            exist("best understudy of part", made, count, (x, p) -> x.bestUnderstudy(p));
        }
    }

    private static Recorded withUnderstudies(int parts, int actors) {
        Recorded x = Houses.sized(parts, actors);
        for (int p = 0; p < parts; p++) {
            for (int a = 0; a < actors; a += Math.max(1, actors - 1)) {
                x.understudy(p, a);
            }
        }
        return x;
    }

    private static void actorsExist() {
        CHECKS.sentence("IndexOutOfBoundsException means that a night, a part, an actor or a slip does not exist");
        for (int count : new int[] {0, 1, 2, 9, 10}) {
            Supplier<Recorded> made = () -> Houses.sized(2, count);
            for (int what = 0; what <= 5; what++) {
                int asked = what;
                exist("actor", made, count, (x, a) -> x.actor(a, asked));
            }
            exist("understudy", made, count, (x, a) -> x.understudy(1, a));
            exist("release of", () -> withUnderstudies(2, count), count, (x, a) -> x.release(1, a));
            exist("illness of", made, count, (x, a) -> x.ill(a, 0, true));
            exist("wellness of", made, count, (x, a) -> x.ill(a, 0, false));
            exist("slip for actor", made, count, (x, a) -> x.slip(0, 0, a, 0));
            exist("find actor", made, count, (x, a) -> x.find(0, a, 0));
            exist("together", made, count, (x, a) -> x.together(a, Math.max(0, count - 1)));
            exist("together with", made, count, (x, a) -> x.together(Math.max(0, count - 1), a));
            exist("longest of actor", made, count, (x, a) -> x.longest(0, a));
            exist("if ill", made, count, (x, a) -> x.ifIll(a, 0, 0));
            exist("if ill, the takings", made, count, (x, a) -> x.ifIll(a, 0, 1));
        }
        CHECKS.sentence("if there is no such part or night, or a is neither an actor nor NONE");
        for (int count : new int[] {0, 1, 10}) {
            Recorded x = Houses.sized(1, count);
            CHECKS.same("nobody before", -1, x.cast(0, BillArchive.NONE, 0));
            if (count > 0) {
                CHECKS.same("the last actor", -1, x.cast(0, count - 1, 0));
                CHECKS.same("nobody again", count - 1, x.cast(0, BillArchive.NONE, 0));
            }
            refuseOutside("principal", x, -2, count, Checks.INDEX, (y, a) -> y.cast(0, a, 0));
        }
    }

    private static void mostPartsAndActors() {
        CHECKS.sentence("if there are 6");
        Recorded x = Houses.sized(5, 9);
        CHECKS.same("the sixth", 5, x.addPart());
        CHECKS.refuses("a seventh", x, Checks.STATE, x::addPart);
        CHECKS.same("six", 6, x.about(0));
        CHECKS.sentence("if there are 10");
        CHECKS.same("the tenth", 9, x.addActor(0));
        CHECKS.refuses("an eleventh", x, Checks.STATE, () -> x.addActor(0));
        CHECKS.same("ten", 10, x.about(1));
        x.undo();
        x.undo();
        CHECKS.same("the sixth once more", 5, x.addPart());
        CHECKS.same("the tenth once more", 9, x.addActor(9));
    }

    private static void slipsExist() {
        CHECKS.sentence("if there is no such slip");
        for (int count : new int[] {0, 1, 19, 20}) {
            Supplier<Recorded> made = () -> {
                Recorded x = Houses.played(6, 10);
                Houses.addSlips(x, count);
                return x;
            };
            for (int what = 0; what <= 4; what++) {
                int asked = what;
                exist("slip", made, count, (x, k) -> x.found(k, asked));
            }
            exist("loss of slip", made, count, (x, k) -> x.lose(k));
        }
    }

    private static void slots() {
        CHECKS.sentence("or that a save slot is not 0 or 1.");
        exist("save in", Houses::full, 2, (x, slot) -> x.save(slot));
        exist("restore from", CountEdgesTest::saved, 2, (x, slot) -> x.restore(slot));
    }

    private static Recorded saved() {
        Recorded x = Houses.small();
        x.save(0);
        x.addPart();
        x.save(1);
        return x;
    }

    private static void fame() {
        CHECKS.sentence("An actor has fame, 0 to 9, and is ill on some nights, at first on none.");
        Recorded x = new Recorded();
        CHECKS.same("the least", 0, x.addActor(0));
        CHECKS.same("the most", 1, x.addActor(9));
        CHECKS.same("the least", 0, x.actor(0, 0));
        CHECKS.same("the most", 9, x.actor(1, 0));
        refuseOutside("fame", x, -1, 10, Checks.ARGUMENT, Recorded::addActor);
        CHECKS.same("at first not ill", 0, x.actor(0, 5) + x.actor(1, 5));
        for (int n = 0; n < 20; n++) {
            CHECKS.same("nobody is ill", 0, x.night(n, 2));
        }
        x.ill(1, 4, true);
        x.undo();
        x.undo();
        x.addActor(5);
        CHECKS.same("nor is one in a place that was another's", 0, x.actor(1, 5));
    }

    private static void atFirst() {
        CHECKS.sentence("A part has on each night an actor who is its principal, or none (at first).");
        Recorded x = Houses.sized(6, 1);
        for (int p = 0; p < 6; p++) {
            for (int n = 0; n < 20; n++) {
                CHECKS.same("no principal", -1, x.bill(n, p, 0));
            }
            CHECKS.same("no understudy", -1, x.ranked(p, 0));
        }
        Recorded y = Houses.sized(1, 1);
        y.cast(0, 0, 0);
        y.understudy(0, 0);
        y.undo();
        y.undo();
        y.undo();
        y.addPart();
        CHECKS.same("nor has a part in a place that was another's", -1, y.bill(0, 0, 0));
        CHECKS.same("nor has a part in a place that was another's", -1, y.ranked(0, 0));
    }

    private static void understudies() {
        CHECKS.sentence("A part has at most 4 understudies, in the order of their ranks, "
            + "all of them different actors.");
        Recorded x = Houses.sized(2, 6);
        int[] order = {5, 0, 4, 1};
        for (int rank = 0; rank < 4; rank++) {
            CHECKS.same("how many", rank + 1, x.understudy(1, order[rank]));
            for (int before = 0; before <= rank; before++) {
                int again = order[before];
                CHECKS.refuses("the same again", x, Checks.STATE, () -> x.understudy(1, again));
            }
        }
        CHECKS.refuses("a fifth", x, Checks.STATE, () -> x.understudy(1, 2));
        for (int rank = 0; rank < 4; rank++) {
            CHECKS.same("rank " + rank, order[rank], x.ranked(1, rank));
        }
        CHECKS.same("none behind", -1, x.ranked(1, 4));
        CHECKS.same("none of part 0", -1, x.ranked(0, 0));
        CHECKS.same("the same of another part", 1, x.understudy(0, 5));
        x.release(1, 0);
        CHECKS.same("a fourth once more", 4, x.understudy(1, 0));
        CHECKS.same("as the last one", 0, x.ranked(1, 3));
    }

    private static void slips() {
        CHECKS.sentence("There are at most 20 slips, numbered from 0 in the order in which they were found.");
        Recorded x = Houses.played(6, 10);
        Houses.addSlips(x, 19);
        CHECKS.same("the twentieth", 19, x.slip(0, 0, 0, 0));
        CHECKS.refuses("one more", x, Checks.STATE, () -> x.slip(0, 0, 0, 0));
        CHECKS.same("the first", 0, x.found(0, 0));
        CHECKS.same("the 19th", 18, x.found(18, 0));
        CHECKS.same("19 left", 19, x.lose(0));
        CHECKS.same("the twentieth once more", 19, x.slip(7, 0, 0, 0));
        CHECKS.same("behind all others", 7, x.found(19, 0));
        CHECKS.refuses("one more", x, Checks.STATE, () -> x.slip(0, 0, 0, 0));
        CHECKS.sentence("A slip tells for one night and one part an actor who should play it, "
            + "and has an hour, 0 to 23.");
        Recorded y = Houses.small();
        CHECKS.same("the first hour", 0, y.slip(19, 1, 3, 0));
        CHECKS.same("the last hour", 1, y.slip(0, 0, 2, 23));
        CHECKS.same("the first hour", 0, y.found(0, 3));
        CHECKS.same("the last hour", 23, y.found(1, 3));
        refuseOutside("hour", y, -1, 24, Checks.ARGUMENT, (z, hour) -> z.slip(0, 0, 0, hour));
    }

    private static void settings() {
        CHECKS.sentence("0: the takings without fame, 0 to 99, at first 20; 1: those by fame, 0 to 9, at first 3.");
        Recorded x = Houses.small();
        CHECKS.same("at first", 20, x.setting(0));
        CHECKS.same("at first", 3, x.setting(1));
        CHECKS.same("the most", 20, x.set(0, 99));
        CHECKS.same("the most", 3, x.set(1, 9));
        CHECKS.same("the most", 99 + 9 * 3, x.night(0, 1));
        refuseOutside("takings without fame", x, -1, 100, Checks.ARGUMENT, (y, v) -> y.set(0, v));
        refuseOutside("takings by fame", x, -1, 10, Checks.ARGUMENT, (y, v) -> y.set(1, v));
        refuseOutside("setting", x, -1, 2, Checks.ARGUMENT, Recorded::setting);
        refuseOutside("change of setting", x, -1, 2, Checks.ARGUMENT, (y, what) -> y.set(what, 0));
        CHECKS.same("the least", 99, x.set(0, 0));
        CHECKS.same("by fame alone", 9 * 3, x.night(0, 1));
        CHECKS.same("the least", 9, x.set(1, 0));
        CHECKS.same("the least", 0, x.setting(0) + x.setting(1));
        CHECKS.same("nothing is taken", 0, x.about(4));
        CHECKS.same("though no night is dark", 0, x.about(3));
    }
}
