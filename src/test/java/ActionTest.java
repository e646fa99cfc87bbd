/** Promises 14 to 23: the actions, and undo. */
public final class ActionTest {
    private static final Checks CHECKS = new Checks("ActionTest");
    private static final Class<IndexOutOfBoundsException> INDEX = IndexOutOfBoundsException.class;
    private static final Class<IllegalArgumentException> ARGUMENT = IllegalArgumentException.class;
    private static final Class<IllegalStateException> STATE = IllegalStateException.class;

    private ActionTest() {
    }

    public static void main(String[] args) {
        addActor();
        addPart();
        cast();
        understudy();
        release();
        ill();
        slip();
        lose();
        set();
        undoTakesBackEachAction();
        undoRemembersFourteen();
        whatThrowsIsNoAction();
        CHECKS.end();
    }

    private static Recorded house() {
        return Views.loaded("Ba1a2a3a4a5a6ppc0000c1100");
    }

    private static void addActor() {
        Recorded x = new Recorded();
        CHECKS.refuses("fame -1", x, ARGUMENT, () -> x.addActor(-1));
        CHECKS.refuses("fame 10", x, ARGUMENT, () -> x.addActor(10));
        for (int a = 0; a < 10; a++) {
            CHECKS.same("number", a, x.addActor(9 - a));
            CHECKS.same("fame", 9 - a, x.actor(a, 0));
            CHECKS.same("not ill", 0, x.actor(a, 5));
        }
        CHECKS.refuses("an eleventh", x, STATE, () -> x.addActor(0));
        CHECKS.refuses("fame first", x, ARGUMENT, () -> x.addActor(10));
    }

    private static void addPart() {
        Recorded x = new Recorded();
        for (int p = 0; p < 6; p++) {
            CHECKS.same("number", p, x.addPart());
            CHECKS.same("no understudy", -1, x.ranked(p, 0));
            for (int n = 0; n < 20; n++) {
                CHECKS.same("no principal", -1, x.bill(n, p, 0));
            }
        }
        CHECKS.refuses("a seventh", x, STATE, x::addPart);
        Recorded y = house();
        y.addPart();
        y.cast(2, 4, 0);
        y.understudy(2, 3);
        y.undo();
        y.undo();
        y.undo();
        CHECKS.same("again", 2, y.addPart());
        CHECKS.same("without principals", -1, y.bill(7, 2, 0));
        CHECKS.same("without understudies", -1, y.ranked(2, 0));
    }

    private static void cast() {
        Recorded x = house();
        CHECKS.same("previous", 0, x.cast(0, 3, 10));
        CHECKS.same("the night before", 0, x.bill(9, 0, 0));
        CHECKS.same("this night", 3, x.bill(10, 0, 0));
        CHECKS.same("the last night", 3, x.bill(19, 0, 0));
        CHECKS.same("previous on this night", 0, x.cast(0, 4, 5));
        CHECKS.same("all later ones", 4, x.bill(15, 0, 0));
        CHECKS.same("to none", 4, x.cast(0, BillArchive.NONE, 19));
        CHECKS.same("none", -1, x.bill(19, 0, 0));
        CHECKS.same("from none", -1, x.cast(0, 1, 19));
        CHECKS.same("the other part", 1, x.bill(19, 1, 0));
        CHECKS.refuses("part 2", x, INDEX, () -> x.cast(2, 0, 0));
        CHECKS.refuses("part -1", x, INDEX, () -> x.cast(-1, 0, 0));
        CHECKS.refuses("night 20", x, INDEX, () -> x.cast(0, 0, 20));
        CHECKS.refuses("night -1", x, INDEX, () -> x.cast(0, 0, -1));
        CHECKS.refuses("actor 6", x, INDEX, () -> x.cast(0, 6, 0));
        CHECKS.refuses("actor -2", x, INDEX, () -> x.cast(0, -2, 0));
    }

    private static void understudy() {
        Recorded x = house();
        CHECKS.same("one", 1, x.understudy(1, 5));
        CHECKS.refuses("the same again", x, STATE, () -> x.understudy(1, 5));
        CHECKS.same("the principal", 2, x.understudy(1, 1));
        CHECKS.same("another part's principal", 3, x.understudy(1, 0));
        CHECKS.same("four", 4, x.understudy(1, 2));
        CHECKS.refuses("a fifth", x, STATE, () -> x.understudy(1, 3));
        CHECKS.same("of another part", 1, x.understudy(0, 5));
        CHECKS.refuses("part 2", x, INDEX, () -> x.understudy(2, 0));
        CHECKS.refuses("part -1", x, INDEX, () -> x.understudy(-1, 0));
        CHECKS.refuses("actor first", x, INDEX, () -> x.understudy(1, 6));
        CHECKS.refuses("actor -1", x, INDEX, () -> x.understudy(1, -1));
    }

    private static void release() {
        Recorded x = house();
        CHECKS.refuses("none", x, STATE, () -> x.release(0, 0));
        for (int a = 2; a < 6; a++) {
            x.understudy(0, a);
        }
        CHECKS.refuses("none of them", x, STATE, () -> x.release(0, 1));
        CHECKS.refuses("of another part", x, STATE, () -> x.release(1, 2));
        CHECKS.same("rank", 1, x.release(0, 3));
        CHECKS.same("those behind come up", 4, x.ranked(0, 1));
        CHECKS.same("those behind come up", 5, x.ranked(0, 2));
        CHECKS.same("three", -1, x.ranked(0, 3));
        CHECKS.same("the last", 2, x.release(0, 5));
        CHECKS.same("the first", 0, x.release(0, 2));
        CHECKS.same("left", 4, x.ranked(0, 0));
        CHECKS.same("as the last one", 2, x.understudy(0, 3));
        CHECKS.same("rank", 1, x.release(0, 3));
        for (int a = 0; a < 4; a++) {
            x.understudy(1, a);
        }
        CHECKS.same("of part 1", 1, x.release(1, 1));
        CHECKS.same("those behind come up", 2, x.ranked(1, 1));
        CHECKS.same("those behind come up", 3, x.ranked(1, 2));
        CHECKS.same("three", -1, x.ranked(1, 3));
        CHECKS.same("part 0 stays", 4, x.ranked(0, 0));
        CHECKS.refuses("part 2", x, INDEX, () -> x.release(2, 4));
        CHECKS.refuses("part -1", x, INDEX, () -> x.release(-1, 4));
        CHECKS.refuses("actor 6", x, INDEX, () -> x.release(0, 6));
        CHECKS.refuses("actor -1", x, INDEX, () -> x.release(0, -1));
    }

    private static void ill() {
        Recorded x = house();
        CHECKS.same("ill", 1, x.ill(5, 0, true));
        CHECKS.same("ill again", 1, x.ill(5, 0, true));
        CHECKS.same("the last night", 2, x.ill(5, 19, true));
        CHECKS.same("well", 1, x.ill(5, 0, false));
        CHECKS.same("well again", 1, x.ill(5, 0, false));
        CHECKS.same("ill on the last night", 1 << 5, x.night(19, 2));
        CHECKS.same("not on the first", 0, x.night(0, 2));
        for (int n = 0; n < 20; n++) {
            x.ill(3, n, true);
        }
        CHECKS.same("all nights", 20, x.actor(3, 5));
        CHECKS.refuses("actor 6", x, INDEX, () -> x.ill(6, 0, true));
        CHECKS.refuses("actor -1", x, INDEX, () -> x.ill(-1, 0, false));
        CHECKS.refuses("night 20", x, INDEX, () -> x.ill(0, 20, true));
        CHECKS.refuses("night -1", x, INDEX, () -> x.ill(0, -1, true));
        CHECKS.refuses("night 32", x, INDEX, () -> x.ill(0, 32, true));
    }

    private static void slip() {
        Recorded x = house();
        CHECKS.refuses("night 20", x, INDEX, () -> x.slip(20, 0, 0, 24));
        CHECKS.refuses("night -1", x, INDEX, () -> x.slip(-1, 0, 0, 0));
        CHECKS.refuses("part 2", x, INDEX, () -> x.slip(0, 2, 0, -1));
        CHECKS.refuses("part -1", x, INDEX, () -> x.slip(0, -1, 0, 0));
        CHECKS.refuses("actor 6", x, INDEX, () -> x.slip(0, 0, 6, 24));
        CHECKS.refuses("actor NONE", x, INDEX, () -> x.slip(0, 0, BillArchive.NONE, 0));
        CHECKS.refuses("hour 24", x, ARGUMENT, () -> x.slip(0, 0, 0, 24));
        CHECKS.refuses("hour -1", x, ARGUMENT, () -> x.slip(0, 0, 0, -1));
        for (int k = 0; k < 20; k++) {
            CHECKS.same("number", k, x.slip(k, k % 2, k % 6, k));
        }
        CHECKS.same("hour", 19, x.found(19, 3));
        CHECKS.refuses("a 21st", x, STATE, () -> x.slip(0, 0, 0, 0));
        CHECKS.refuses("hour first", x, ARGUMENT, () -> x.slip(0, 0, 0, 24));
        CHECKS.refuses("actor first", x, INDEX, () -> x.slip(0, 0, 6, 24));
    }

    private static void lose() {
        Recorded x = house();
        CHECKS.refuses("no slip", x, INDEX, () -> x.lose(0));
        for (int k = 0; k < 20; k++) {
            x.slip(k, 0, 2, k);
        }
        CHECKS.same("19 left", 19, x.lose(19));
        CHECKS.same("18 left", 18, x.lose(0));
        CHECKS.same("numbers become 1 less", 1, x.found(0, 0));
        CHECKS.same("numbers become 1 less", 18, x.found(17, 3));
        CHECKS.same("17 left", 17, x.lose(5));
        CHECKS.same("those before stay", 5, x.found(4, 0));
        CHECKS.same("those behind do not", 7, x.found(5, 0));
        CHECKS.same("who played", 0, x.played(6, 0));
        CHECKS.same("who played", 2, x.played(7, 0));
        CHECKS.refuses("slip 17", x, INDEX, () -> x.lose(17));
        CHECKS.refuses("slip -1", x, INDEX, () -> x.lose(-1));
        CHECKS.same("the next number", 17, x.slip(0, 0, 3, 0));
    }

    private static void set() {
        Recorded x = house();
        CHECKS.same("previous", 20, x.set(0, 99));
        CHECKS.same("previous", 99, x.set(0, 0));
        CHECKS.same("previous", 3, x.set(1, 9));
        CHECKS.same("previous", 9, x.set(1, 0));
        CHECKS.same("new", 0, x.setting(1));
        CHECKS.same("takings", 0, x.about(4));
        CHECKS.refuses("setting 2", x, ARGUMENT, () -> x.set(2, 0));
        CHECKS.refuses("setting -1", x, ARGUMENT, () -> x.set(-1, 0));
        CHECKS.refuses("100", x, ARGUMENT, () -> x.set(0, 100));
        CHECKS.refuses("10", x, ARGUMENT, () -> x.set(1, 10));
        CHECKS.refuses("0: -1", x, ARGUMENT, () -> x.set(0, -1));
        CHECKS.refuses("1: -1", x, ARGUMENT, () -> x.set(1, -1));
    }

    private static void takenBack(String label, Recorded x, Checks.Call action) {
        String before = Views.of(x);
        action.answer();
        CHECKS.same(label + ": still remembered", 0, x.undo());
        CHECKS.same(label + ": taken back", before, Views.of(x));
    }

    private static void undoTakesBackEachAction() {
        Recorded x = Views.loaded("Ba1a2a3a4ppc0000c1100u02u13i205s050212s051313");
        takenBack("addActor", x, () -> x.addActor(7));
        takenBack("addPart", x, x::addPart);
        takenBack("cast", x, () -> x.cast(0, 3, 4));
        takenBack("cast to the same", x, () -> x.cast(0, 0, 4));
        takenBack("understudy", x, () -> x.understudy(0, 1));
        takenBack("release", x, () -> x.release(0, 2));
        takenBack("ill", x, () -> x.ill(0, 5, true));
        takenBack("ill as before", x, () -> x.ill(2, 5, true));
        takenBack("slip", x, () -> x.slip(5, 0, 1, 23));
        takenBack("lose", x, () -> x.lose(0));
        takenBack("set", x, () -> x.set(0, 1));
        takenBack("set as before", x, () -> x.set(0, 20));
        x.set(0, 1);
        Views.type(x, "Bp");
        x.undo();
        CHECKS.same("undo leaves the text", 2, x.clearText());
    }

    private static void undoRemembersFourteen() {
        Recorded x = house();
        for (int i = 1; i <= 40; i++) {
            x.set(0, i);
        }
        for (int left = 13; left >= 0; left--) {
            CHECKS.same("still remembered", left, x.undo());
            CHECKS.same("the state before", 40 - (14 - left), x.setting(0));
        }
        CHECKS.refuses("none remembered", x, STATE, x::undo);
        for (int i = 1; i <= 14; i++) {
            x.set(1, i % 10);
        }
        CHECKS.same("thirteen", 13, x.undo());
        x.set(1, 7);
        CHECKS.same("undo is no action", 13, x.undo());
        CHECKS.same("the state before", 3, x.setting(1));
        Recorded y = house();
        for (int i = 0; i < 100; i++) {
            y.set(0, i % 100);
            y.set(0, (i + 50) % 100);
            CHECKS.same("after " + i, Math.min(13, i + 1), y.undo());
            CHECKS.same("after " + i, i % 100, y.setting(0));
        }
    }

    private static void whatThrowsIsNoAction() {
        Recorded x = house();
        x.set(0, 77);
        Checks.outcome(() -> x.addActor(10));
        Checks.outcome(() -> x.cast(0, 9, 0));
        Checks.outcome(() -> x.understudy(0, 9));
        Checks.outcome(() -> x.release(0, 2));
        Checks.outcome(() -> x.ill(9, 0, true));
        Checks.outcome(() -> x.slip(0, 0, 0, 24));
        Checks.outcome(() -> x.lose(0));
        Checks.outcome(() -> x.set(0, 100));
        CHECKS.same("only one is remembered", 0, x.undo());
        CHECKS.same("the setting", 20, x.setting(0));
    }
}
