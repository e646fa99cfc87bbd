/** Promises 6 to 13: what there is, and who played. */
public final class ViewTest {
    private static final Checks CHECKS = new Checks("ViewTest");
    private static final Class<IndexOutOfBoundsException> INDEX = IndexOutOfBoundsException.class;
    private static final Class<IllegalArgumentException> ARGUMENT = IllegalArgumentException.class;

    private ViewTest() {
    }

    public static void main(String[] args) {
        whoPlayedBySlip();
        whoPlayedByPrincipal();
        whoPlayedByUnderstudy();
        aLostPartDarkensTheNight();
        about();
        unlikeBills();
        played();
        bill();
        night();
        actor();
        ranked();
        found();
        setting();
        CHECKS.end();
    }

    /** Two parts with principals 0 and 1, and actors 2 and 3, of fame 1 to 4. */
    private static Recorded house() {
        return Views.loaded("Ba1a2a3a4ppc0000c1100");
    }

    private static void whoPlayedBySlip() {
        Recorded x = house();
        x.slip(4, 0, 2, 10);
        x.slip(4, 0, 3, 9);
        CHECKS.same("the latest hour first", 2, x.played(4, 0));
        x.slip(4, 0, 3, 10);
        CHECKS.same("of one hour the greatest number", 3, x.played(4, 0));
        CHECKS.same("by a slip", 1, x.bill(4, 0, 2));
        CHECKS.same("other nights stay", 0, x.played(5, 0));
        x.ill(3, 4, true);
        CHECKS.same("an ill actor is passed over", 2, x.played(4, 0));
        x.slip(4, 0, 1, 23);
        CHECKS.same("a slip takes another part's principal", 1, x.bill(4, 0, 1));
        CHECKS.same("who is taken then", -1, x.bill(4, 1, 1));
        CHECKS.same("so the night is dark", -1, x.played(4, 0));
        x.slip(4, 1, 1, 0);
        x.slip(4, 1, 0, 0);
        CHECKS.same("a slip for one taken is passed over", 0, x.played(4, 1));
        Recorded y = house();
        y.slip(4, 0, 2, 5);
        y.slip(4, 0, 2, 7);
        y.slip(4, 0, 2, 7);
        y.slip(4, 0, 2, 6);
        CHECKS.same("the first of those that tell this one", 1, y.found(2, 4));
        CHECKS.same("not the others", 0, y.found(0, 4) + y.found(1, 4) + y.found(3, 4));
        y.slip(6, 0, 0, 0);
        CHECKS.same("a slip that tells the principal", 1, y.bill(6, 0, 2));
        CHECKS.same("played by the principal all the same", 0, y.night(6, 4));
    }

    private static void whoPlayedByPrincipal() {
        Recorded x = house();
        CHECKS.same("the principal", 2, x.bill(0, 0, 2));
        x.cast(1, 0, 0);
        CHECKS.same("the lowest part first", 0, x.bill(0, 0, 1));
        CHECKS.same("taken once", -1, x.bill(0, 1, 1));
        x.slip(3, 1, 0, 12);
        CHECKS.same("part 0 takes its principal before part 1 its slip", 0, x.bill(3, 0, 1));
        CHECKS.same("the slip is in vain", 0, x.bill(3, 1, 2));
    }

    private static void whoPlayedByUnderstudy() {
        Recorded x = house();
        x.understudy(0, 1);
        x.understudy(0, 2);
        x.understudy(0, 3);
        x.ill(0, 7, true);
        CHECKS.same("the principal of another part is left out", 2, x.played(7, 0));
        CHECKS.same("by rank", 3, x.bill(7, 0, 2));
        x.ill(2, 7, true);
        CHECKS.same("an ill understudy is passed over", 3, x.played(7, 0));
        x.ill(1, 7, true);
        CHECKS.same("an ill principal of another part too", 3, x.bill(7, 0, 1));
        x.ill(1, 7, false);
        x.cast(1, BillArchive.NONE, 0);
        CHECKS.same("no principal any more, so not left out", 1, x.bill(7, 0, 1));
        x.cast(1, 1, 8);
        x.cast(0, 1, 8);
        CHECKS.same("the principal of this part and another", 1, x.bill(9, 0, 1));
        CHECKS.same("as its principal", 2, x.bill(9, 0, 2));
        Recorded y = house();
        y.understudy(1, 2);
        y.understudy(1, 3);
        y.slip(2, 0, 2, 3);
        y.ill(1, 2, true);
        CHECKS.same("one taken is passed over", 3, y.played(2, 1));
        Recorded last = Views.loaded("Ba1a2a3ppc0000c1100u12u10");
        last.ill(1, 5, true);
        last.ill(2, 5, true);
        CHECKS.same("the principal of a lower part is left out", 0, last.bill(5, 1, 2));
        last.ill(2, 5, false);
        CHECKS.same("no slip plays", 0, last.about(6));
        last.slip(7, 0, 0, 3);
        CHECKS.same("one slip plays", 1, last.about(6));
        CHECKS.same("by it", 1, last.found(0, 4));
        last.slip(5, 1, 1, 3);
        last.lose(0);
        CHECKS.same("an understudy plays by no slip", 0, last.found(0, 4) + last.about(6));
        Recorded away = Views.loaded("Ba1a2a3ppc0000c1100u10i105s050212");
        CHECKS.same("part 0 is taken by a slip", 2, away.bill(5, 0, 1));
        CHECKS.same("its principal is left out for part 1 all the same", 0, away.bill(5, 1, 2));
        away.cast(0, BillArchive.NONE, 0);
        CHECKS.same("but not one who is nobody's principal", 0, away.played(5, 1));
        Recorded z = Views.loaded("Ba1a2ppc0000c1000u11");
        CHECKS.same("an understudy for one taken", 1, z.played(0, 1));
        z.understudy(0, 1);
        z.ill(0, 3, true);
        CHECKS.same("an understudy of two parts plays the lowest", 1, z.bill(3, 0, 1));
        CHECKS.same("and the other is lost", 0, z.bill(3, 1, 2));
    }

    private static void aLostPartDarkensTheNight() {
        Recorded x = house();
        x.ill(1, 2, true);
        CHECKS.same("dark", 1, x.night(2, 0));
        CHECKS.same("nobody plays part 0", -1, x.played(2, 0));
        CHECKS.same("but it is taken", 0, x.bill(2, 0, 1));
        CHECKS.same("part 1 is lost", 0, x.bill(2, 1, 2));
        CHECKS.same("the next night is not dark", 0, x.night(3, 0));
        x.ill(1, 2, false);
        x.ill(0, 2, true);
        CHECKS.same("a part behind a lost one is taken", 1, x.bill(2, 1, 1));
        x.addPart();
        CHECKS.same("a part without anybody darkens all", 20, x.about(3));
    }

    private static void about() {
        Recorded x = house();
        CHECKS.same("parts", 2, x.about(0));
        CHECKS.same("actors", 4, x.about(1));
        CHECKS.same("slips", 0, x.about(2));
        CHECKS.same("dark", 0, x.about(3));
        CHECKS.same("takings", 20 * (20 + 3 * 3), x.about(4));
        CHECKS.same("unlike", 1, x.about(5));
        x.slip(4, 0, 2, 10);
        x.slip(4, 0, 3, 9);
        x.slip(5, 1, 3, 9);
        x.slip(6, 1, 3, 9);
        x.ill(0, 6, true);
        CHECKS.same("slips", 4, x.about(2));
        CHECKS.same("slips of a dark night do not count", 2, x.about(6));
        CHECKS.same("dark", 1, x.about(3));
        CHECKS.same("takings", 17 * 29 + (20 + 3 * 5) + (20 + 3 * 5), x.about(4));
        CHECKS.refuses("about -1", x, ARGUMENT, () -> x.about(-1));
        CHECKS.refuses("about 7", x, ARGUMENT, () -> x.about(7));
        CHECKS.refuses("about min", x, ARGUMENT, () -> x.about(Integer.MIN_VALUE));
    }

    private static void unlikeBills() {
        Recorded x = house();
        x.slip(0, 0, 2, 1);
        x.slip(19, 0, 2, 1);
        CHECKS.same("two alike with others between", 2, x.about(5));
        x.slip(1, 0, 1, 1);
        x.slip(1, 1, 0, 1);
        CHECKS.same("the same actors in other parts", 3, x.about(5));
        x.ill(0, 2, true);
        CHECKS.same("a dark night has none", 3, x.about(5));
        Recorded y = new Recorded();
        for (int a = 0; a < 10; a++) {
            y.addActor(a);
        }
        for (int p = 0; p < 6; p++) {
            y.addPart();
            y.cast(p, 9 - p, 0);
        }
        for (int n = 0; n < 20; n++) {
            y.slip(n, n % 5, n % 4, 3);
        }
        CHECKS.same("twenty unlike bills", 20, y.about(5));
        CHECKS.same("all by slips", 20, y.about(6));
    }

    private static void played() {
        Recorded x = house();
        CHECKS.same("first night", 0, x.played(0, 0));
        CHECKS.same("last night", 1, x.played(19, 1));
        CHECKS.refuses("night -1", x, INDEX, () -> x.played(-1, 0));
        CHECKS.refuses("night 20", x, INDEX, () -> x.played(20, 0));
        CHECKS.refuses("part -1", x, INDEX, () -> x.played(0, -1));
        CHECKS.refuses("part 2", x, INDEX, () -> x.played(0, 2));
        Recorded nobody = new Recorded();
        CHECKS.refuses("no parts", nobody, INDEX, () -> nobody.played(0, 0));
    }

    private static void bill() {
        Recorded x = house();
        x.addPart();
        x.slip(3, 2, 2, 0);
        x.slip(3, 2, 3, 23);
        x.slip(3, 1, 3, 23);
        x.slip(4, 2, 3, 23);
        CHECKS.same("no principal", -1, x.bill(3, 2, 0));
        CHECKS.same("principal", 1, x.bill(3, 1, 0));
        CHECKS.same("taken", 2, x.bill(3, 2, 1));
        CHECKS.same("reason", 1, x.bill(3, 2, 2));
        CHECKS.same("slips for it", 2, x.bill(3, 2, 3));
        CHECKS.same("slips for it", 1, x.bill(3, 1, 3));
        CHECKS.same("slips for it", 0, x.bill(3, 0, 3));
        CHECKS.same("a lost part", -1, x.bill(5, 2, 1));
        CHECKS.same("a lost part's reason", 0, x.bill(5, 2, 2));
        CHECKS.same("taken though dark", 0, x.bill(5, 0, 1));
        CHECKS.refuses("what -1", x, ARGUMENT, () -> x.bill(0, 0, -1));
        CHECKS.refuses("what 4", x, ARGUMENT, () -> x.bill(0, 0, 4));
        CHECKS.refuses("night first", x, INDEX, () -> x.bill(20, 0, 4));
        CHECKS.refuses("part first", x, INDEX, () -> x.bill(0, 3, -1));
        CHECKS.refuses("part -1", x, INDEX, () -> x.bill(0, -1, 0));
        CHECKS.refuses("night -1", x, INDEX, () -> x.bill(-1, 0, 0));
    }

    private static void night() {
        Recorded x = house();
        x.set(0, 7);
        x.set(1, 5);
        x.understudy(1, 3);
        x.ill(1, 6, true);
        x.ill(2, 6, true);
        CHECKS.same("not dark", 0, x.night(6, 0));
        CHECKS.same("takings", 7 + 5 * (1 + 4), x.night(6, 1));
        CHECKS.same("ill", 6, x.night(6, 2));
        CHECKS.same("players", 9, x.night(6, 3));
        CHECKS.same("parts of others", 1, x.night(6, 4));
        CHECKS.same("parts of others", 0, x.night(5, 4));
        x.slip(6, 0, 3, 4);
        CHECKS.same("dark", 1, x.night(6, 0));
        CHECKS.same("takings of a dark night", 0, x.night(6, 1));
        CHECKS.same("ill on a dark night", 6, x.night(6, 2));
        CHECKS.same("nobody plays", 0, x.night(6, 3));
        CHECKS.same("parts of others on a dark night", 0, x.night(6, 4));
        x.addPart();
        x.slip(8, 2, 2, 4);
        x.slip(8, 1, 3, 4);
        CHECKS.same("a part without a principal counts", 2, x.night(8, 4));
        CHECKS.same("part 0 is played by another", 1, partsOfOthersOnNightNine());
        CHECKS.refuses("night 20", x, INDEX, () -> x.night(20, 0));
        CHECKS.refuses("night -1", x, INDEX, () -> x.night(-1, 5));
        CHECKS.refuses("what 5", x, ARGUMENT, () -> x.night(19, 5));
        CHECKS.refuses("what -1", x, ARGUMENT, () -> x.night(0, -1));
    }

    private static int partsOfOthersOnNightNine() {
        Recorded x = house();
        x.slip(9, 0, 2, 4);
        return x.night(9, 4);
    }

    private static void actor() {
        Recorded x = house();
        x.slip(3, 1, 2, 4);
        x.slip(9, 0, 2, 4);
        x.slip(11, 0, 2, 4);
        x.ill(1, 11, true);
        x.ill(2, 0, true);
        x.ill(2, 19, true);
        CHECKS.same("fame", 3, x.actor(2, 0));
        CHECKS.same("nights, but no dark one", 2, x.actor(2, 1));
        CHECKS.same("first", 3, x.actor(2, 2));
        CHECKS.same("last", 9, x.actor(2, 3));
        CHECKS.same("parts", 3, x.actor(2, 4));
        CHECKS.same("ill", 2, x.actor(2, 5));
        CHECKS.same("all nights but two", 18, x.actor(0, 1));
        CHECKS.same("first", 0, x.actor(0, 2));
        CHECKS.same("last", 19, x.actor(0, 3));
        CHECKS.same("parts", 1, x.actor(0, 4));
        CHECKS.same("never", 0, x.actor(3, 1));
        CHECKS.same("no first", -1, x.actor(3, 2));
        CHECKS.same("no last", -1, x.actor(3, 3));
        CHECKS.same("no parts", 0, x.actor(3, 4));
        x.slip(0, 1, 3, 4);
        CHECKS.same("night 0 alone: first", 0, x.actor(3, 2));
        CHECKS.same("night 0 alone: last", 0, x.actor(3, 3));
        CHECKS.same("night 0 alone: parts", 2, x.actor(3, 4));
        CHECKS.refuses("actor 4", x, INDEX, () -> x.actor(4, 0));
        CHECKS.refuses("actor -1", x, INDEX, () -> x.actor(-1, 6));
        CHECKS.refuses("what 6", x, ARGUMENT, () -> x.actor(0, 6));
        CHECKS.refuses("what -1", x, ARGUMENT, () -> x.actor(0, -1));
    }

    private static void ranked() {
        Recorded x = house();
        CHECKS.same("none", -1, x.ranked(0, 0));
        x.understudy(0, 3);
        x.understudy(0, 0);
        x.understudy(0, 2);
        x.understudy(0, 1);
        CHECKS.same("rank 0", 3, x.ranked(0, 0));
        CHECKS.same("rank 1", 0, x.ranked(0, 1));
        CHECKS.same("rank 3", 1, x.ranked(0, 3));
        CHECKS.same("rank 4", -1, x.ranked(0, 4));
        CHECKS.same("a great rank", -1, x.ranked(0, Integer.MAX_VALUE));
        CHECKS.same("another part", -1, x.ranked(1, 0));
        CHECKS.refuses("rank -1", x, ARGUMENT, () -> x.ranked(0, -1));
        CHECKS.refuses("part first", x, INDEX, () -> x.ranked(2, -1));
        CHECKS.refuses("part -1", x, INDEX, () -> x.ranked(-1, 0));
    }

    private static void found() {
        Recorded x = house();
        x.slip(13, 1, 3, 23);
        x.slip(0, 0, 2, 0);
        int[] want = {13, 1, 3, 23, 1};
        for (int what = 0; what < want.length; what++) {
            CHECKS.same("slip 0, " + what, want[what], x.found(0, what));
        }
        CHECKS.same("slip 1", 2, x.found(1, 2));
        CHECKS.same("played by it", 1, x.found(1, 4));
        x.ill(1, 0, true);
        CHECKS.same("a dark night", 0, x.found(1, 4));
        CHECKS.refuses("slip 2", x, INDEX, () -> x.found(2, 0));
        CHECKS.refuses("slip -1", x, INDEX, () -> x.found(-1, 5));
        CHECKS.refuses("what 5", x, ARGUMENT, () -> x.found(0, 5));
        CHECKS.refuses("what -1", x, ARGUMENT, () -> x.found(0, -1));
    }

    private static void setting() {
        Recorded x = house();
        CHECKS.same("setting 0", 20, x.setting(0));
        CHECKS.same("setting 1", 3, x.setting(1));
        CHECKS.refuses("setting 2", x, ARGUMENT, () -> x.setting(2));
        CHECKS.refuses("setting -1", x, ARGUMENT, () -> x.setting(-1));
    }
}
