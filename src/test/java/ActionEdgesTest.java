/** The edges of promises 14 to 23: the actions, what is remembered, and undo. */
public final class ActionEdgesTest {
    private static final Checks CHECKS = new Checks("ActionEdgesTest");
    private static final int NONE = BillArchive.NONE;

    private ActionEdgesTest() {
    }

    public static void main(String[] args) {
        addActor();
        addPart();
        cast();
        understudy();
        release();
        ill();
        slip();
        lose();
        set();
        undo();
        fourteen();
        whatIsAnAction();
        whatIsNoAction();
        whatTheStateIs();
        CHECKS.end();
    }

    private static void addActor() {
        CHECKS.sentence("Returns the number of the actor.");
        Recorded x = new Recorded();
        for (int a = 0; a < 10; a++) {
            CHECKS.same("number", a, x.addActor(9 - a));
        }
        CHECKS.same("the first one's fame", 9, x.actor(0, 0));
        CHECKS.same("the last one's fame", 0, x.actor(9, 0));
        CHECKS.sentence("if fame is out of range");
        Recorded y = Houses.sized(1, 9);
        for (int fame : new int[] {-1, 10, Integer.MIN_VALUE, Integer.MAX_VALUE}) {
            CHECKS.refuses("fame " + fame, y, Checks.ARGUMENT, () -> y.addActor(fame));
        }
        CHECKS.same("the tenth, of the most fame", 9, y.addActor(9));
        CHECKS.sentence("if there are 10");
        for (int fame : new int[] {0, 9}) {
            CHECKS.refuses("the eleventh", x, Checks.STATE, () -> x.addActor(fame));
        }
        CHECKS.same("undo makes room", 9, x.undo());
        CHECKS.same("the tenth once more", 9, x.addActor(4));
        CHECKS.same("its fame", 4, x.actor(9, 0));
    }

    private static void addPart() {
        CHECKS.sentence("Adds a part without principals and understudies.");
        Recorded x = Houses.played(1, 10);
        x.understudy(0, 9);
        x.understudy(0, 8);
        for (int p = 1; p < 6; p++) {
            CHECKS.same("number", p, x.addPart());
            CHECKS.same("no understudies", NONE, x.ranked(p, 0));
            for (int n = 0; n < 20; n++) {
                CHECKS.same("no principal", NONE, x.bill(n, p, 0));
            }
        }
        CHECKS.same("a part of nobody makes all nights dark", 20, x.about(3));
        CHECKS.sentence("if there are 6");
        CHECKS.refuses("a seventh", x, Checks.STATE, x::addPart);
        x.undo();
        x.addPart();
        CHECKS.refuses("a seventh", x, Checks.STATE, x::addPart);
    }

    private static void principals(String label, Recorded x, int p, int from, int to, int want) {
        for (int n = from; n < to; n++) {
            CHECKS.same(label + ": principal on night " + n, want, x.bill(n, p, 0));
        }
    }

    private static void cast() {
        CHECKS.sentence("Makes an actor the principal of a part on a night and all later ones.");
        Recorded x = Houses.sized(6, 10);
        x.cast(5, 9, 19);
        principals("the last night alone", x, 5, 0, 19, NONE);
        principals("the last night alone", x, 5, 19, 20, 9);
        x.cast(5, 0, 0);
        principals("the first night on", x, 5, 0, 20, 0);
        x.cast(5, 3, 10);
        principals("those before", x, 5, 0, 10, 0);
        principals("from the night on", x, 5, 10, 20, 3);
        principals("the part before", x, 4, 0, 20, NONE);
        x.cast(4, 2, 19);
        principals("the part behind", x, 5, 0, 1, 0);
        CHECKS.sentence("Returns the previous principal on this night, NONE if there was none.");
        CHECKS.same("none", NONE, x.cast(0, 9, 0));
        CHECKS.same("the first actor's", 0, x.cast(5, 1, 9));
        CHECKS.same("on this night, not on a later one", 0, x.cast(5, 4, 8));
        CHECKS.same("the one just cast", 4, x.cast(5, NONE, 19));
        CHECKS.same("none any more", NONE, x.cast(5, NONE, 19));
        CHECKS.same("the last actor", 9, x.cast(0, 9, 0));
        for (int a : new int[] {-2, 10, Integer.MIN_VALUE, Integer.MAX_VALUE}) {
            CHECKS.refuses("actor " + a, x, Checks.INDEX, () -> x.cast(0, a, 0));
        }
    }

    private static void understudy() {
        CHECKS.sentence("Returns how many there are then.");
        Recorded x = Houses.played(6, 10);
        for (int count = 1; count <= 4; count++) {
            CHECKS.same("how many", count, x.understudy(5, count + 5));
            CHECKS.same("the last one", count + 5, x.ranked(5, count - 1));
        }
        CHECKS.sentence("if there are 4, or the actor is one of them");
        CHECKS.refuses("a fifth", x, Checks.STATE, () -> x.understudy(5, 0));
        CHECKS.refuses("the first again, of 4", x, Checks.STATE, () -> x.understudy(5, 6));
        CHECKS.refuses("the last again, of 4", x, Checks.STATE, () -> x.understudy(5, 9));
        x.release(5, 9);
        CHECKS.refuses("the last again, of 3", x, Checks.STATE, () -> x.understudy(5, 8));
        CHECKS.refuses("the first again, of 3", x, Checks.STATE, () -> x.understudy(5, 6));
        CHECKS.same("its own principal", 4, x.understudy(5, 5));
        x.understudy(0, 9);
        CHECKS.refuses("the only one again", x, Checks.STATE, () -> x.understudy(0, 9));
        CHECKS.same("the one of another part", 2, x.understudy(0, 6));
    }

    private static void release() {
        CHECKS.sentence("Returns the rank that the actor had.");
        for (int rank = 0; rank < 4; rank++) {
            Recorded x = Houses.full();
            CHECKS.same("the rank", rank, x.release(5, 6 + rank));
            for (int k = 0; k < 4; k++) {
                int want = k == 3 ? NONE : 6 + k + (k >= rank ? 1 : 0);
                CHECKS.same("rank " + k + " without " + rank, want, x.ranked(5, k));
                CHECKS.same("rank " + k + " of another part", 6 + k, x.ranked(4, k));
            }
        }
        CHECKS.sentence("if the actor is none of them");
        Recorded x = Houses.sized(6, 10);
        CHECKS.refuses("there are none", x, Checks.STATE, () -> x.release(0, 0));
        x.understudy(0, 9);
        CHECKS.refuses("another one", x, Checks.STATE, () -> x.release(0, 0));
        CHECKS.refuses("of another part", x, Checks.STATE, () -> x.release(5, 9));
        CHECKS.same("the only one", 0, x.release(0, 9));
        CHECKS.refuses("one who was", x, Checks.STATE, () -> x.release(0, 9));
        Recorded full = Houses.full();
        CHECKS.refuses("none of four", full, Checks.STATE, () -> full.release(0, 0));
        full.release(0, 9);
        CHECKS.refuses("the fourth who was", full, Checks.STATE, () -> full.release(0, 9));
    }

    private static void ill() {
        CHECKS.sentence("Returns the nights on which the actor is ill then.");
        Recorded x = Houses.sized(1, 10);
        for (int n = 0; n < 20; n++) {
            CHECKS.same("ill", n + 1, x.ill(9, n, true));
        }
        CHECKS.same("ill as before", 20, x.ill(9, 19, true));
        for (int n = 19; n >= 0; n--) {
            CHECKS.same("well", n, x.ill(9, n, false));
        }
        CHECKS.same("well as before", 0, x.ill(9, 0, false));
        CHECKS.same("one night of another actor", 1, x.ill(0, 0, true));
        CHECKS.same("not of this one", 0, x.actor(9, 5));
        CHECKS.same("that night", 1, x.night(0, 2));
    }

    private static void slip() {
        CHECKS.sentence("if hour is out of range");
        Recorded x = Houses.played(6, 10);
        for (int hour : new int[] {-1, 24, Integer.MIN_VALUE, Integer.MAX_VALUE}) {
            CHECKS.refuses("hour " + hour, x, Checks.ARGUMENT, () -> x.slip(0, 0, 0, hour));
        }
        for (int k = 0; k < 20; k++) {
            CHECKS.same("its number", k, x.slip(19 - k, 5 - k % 6, 9 - k % 10, k % 2 * 23));
        }
        CHECKS.sentence("if there are 20");
        CHECKS.refuses("one more", x, Checks.STATE, () -> x.slip(19, 5, 9, 23));
        CHECKS.refuses("one more", x, Checks.STATE, () -> x.slip(0, 0, 0, 0));
        CHECKS.same("the first one's night", 19, x.found(0, 0));
        CHECKS.same("the last one's night", 0, x.found(19, 0));
        x.undo();
        CHECKS.same("undo makes room", 19, x.slip(5, 5, 5, 5));
    }

    private static void lose() {
        CHECKS.sentence("Takes a slip out; the numbers of those behind it become 1 less.");
        for (int out : new int[] {0, 1, 18, 19}) {
            Recorded x = Houses.full();
            CHECKS.same("the slips then", 19, x.lose(out));
            for (int k = 0; k < 19; k++) {
                int was = k < out ? k : k + 1;
                CHECKS.same("night of slip " + k, was, x.found(k, 0));
                CHECKS.same("part of slip " + k, was % 6, x.found(k, 1));
                CHECKS.same("actor of slip " + k, 6 + was % 4, x.found(k, 2));
                CHECKS.same("hour of slip " + k, was, x.found(k, 3));
                CHECKS.same("slip " + k + " plays", 1, x.found(k, 4));
            }
            CHECKS.refuses("slip 19", x, Checks.INDEX, () -> x.lose(19));
        }
        CHECKS.sentence("Returns the slips then.");
        Recorded x = Houses.full();
        for (int left = 19; left >= 0; left--) {
            CHECKS.same("left", left, x.lose(0));
        }
        CHECKS.refuses("none", x, Checks.INDEX, () -> x.lose(0));
        CHECKS.same("numbered from 0 again", 0, x.slip(0, 0, 0, 0));
    }

    private static void set() {
        CHECKS.sentence("Returns the previous one.");
        Recorded x = Houses.small();
        CHECKS.same("at first", 20, x.set(0, 0));
        CHECKS.same("the least", 0, x.set(0, 99));
        CHECKS.same("the greatest", 99, x.set(0, 99));
        CHECKS.same("the same", 99, x.setting(0));
        CHECKS.same("at first", 3, x.set(1, 0));
        CHECKS.same("the least", 0, x.set(1, 9));
        CHECKS.same("the greatest", 9, x.set(1, 9));
        CHECKS.same("the same", 9, x.setting(1));
        CHECKS.sentence("if what or v is out of range");
        for (int v : new int[] {-1, 100, Integer.MIN_VALUE, Integer.MAX_VALUE}) {
            CHECKS.refuses("0 to " + v, x, Checks.ARGUMENT, () -> x.set(0, v));
        }
        for (int v : new int[] {-1, 10, 99, Integer.MIN_VALUE, Integer.MAX_VALUE}) {
            CHECKS.refuses("1 to " + v, x, Checks.ARGUMENT, () -> x.set(1, v));
        }
        for (int what : new int[] {-1, 2, Integer.MIN_VALUE, Integer.MAX_VALUE}) {
            CHECKS.refuses("setting " + what, x, Checks.ARGUMENT, () -> x.set(what, 0));
            CHECKS.refuses("setting " + what, x, Checks.ARGUMENT, () -> x.set(what, 9));
        }
    }

    private static void undo() {
        CHECKS.sentence("Returns how many states are still remembered.");
        Recorded x = Houses.small();
        String before = Views.of(x);
        CHECKS.refuses("none", x, Checks.STATE, x::undo);
        x.addPart();
        CHECKS.same("one", 0, x.undo());
        CHECKS.same("as before", before, Views.of(x));
        CHECKS.sentence("if none is remembered");
        CHECKS.refuses("the one has been taken back", x, Checks.STATE, x::undo);
        Recorded y = new Recorded();
        CHECKS.refuses("a new object", y, Checks.STATE, y::undo);
        x.addPart();
        x.addPart();
        CHECKS.same("one is left", 1, x.undo());
        CHECKS.same("another action", 3, x.addPart());
        CHECKS.same("one is left", 1, x.undo());
        CHECKS.same("none is left", 0, x.undo());
        CHECKS.refuses("none", x, Checks.STATE, x::undo);
    }

    private static void fourteen() {
        CHECKS.sentence("At most 14 states are remembered; when one more is remembered, "
            + "the oldest one is forgotten.");
        for (int actions : new int[] {1, 13, 14, 15, 16, 27, 28, 29, 60}) {
            Recorded x = Houses.small();
            for (int i = 1; i <= actions; i++) {
                x.set(0, i);
            }
            int remembered = Math.min(14, actions);
            for (int i = 1; i <= remembered; i++) {
                CHECKS.same("still remembered", remembered - i, x.undo());
                CHECKS.same("the state before", actions == i ? 20 : actions - i, x.setting(0));
            }
            CHECKS.refuses("forgotten behind " + actions, x, Checks.STATE, x::undo);
        }
        Recorded y = Houses.small();
        for (int i = 0; i < 14; i++) {
            y.set(0, i);
        }
        CHECKS.same("thirteen", 13, y.undo());
        y.set(0, 50);
        y.set(0, 51);
        CHECKS.same("fourteen again, the oldest is forgotten", 13, y.undo());
        CHECKS.same("the newest", 50, y.setting(0));
        for (int left = 12; left >= 0; left--) {
            CHECKS.same("still remembered", left, y.undo());
            CHECKS.same("the state before", left, y.setting(0));
        }
        CHECKS.refuses("that of before all is forgotten", y, Checks.STATE, y::undo);
    }

    /** The action leaves one state more, and undo brings all back. */
    private static void isAction(String label, Recorded x, Recorded.Call call) {
        String before = Views.of(x);
        x.ask(call);
        CHECKS.same(label + ": remembered", 0, x.undo());
        CHECKS.same(label + ": taken back", before, Views.of(x));
    }

    private static void whatIsAnAction() {
        CHECKS.sentence("Each call of one of them that does not throw an exception is an action, "
            + "also if nothing becomes different (undo is none).");
        Recorded x = Views.loaded("Ba1a2a3a4ppc0000c1100u02u13i205s050212s051313");
        isAction("addActor", x, a -> a.addActor(9));
        isAction("addPart", x, BillArchive::addPart);
        isAction("cast", x, a -> a.cast(1, 3, 19));
        isAction("cast of nobody", x, a -> a.cast(1, NONE, 0));
        isAction("cast of the same", x, a -> a.cast(1, 1, 0));
        isAction("understudy", x, a -> a.understudy(1, 2));
        isAction("release", x, a -> a.release(0, 2));
        isAction("ill", x, a -> a.ill(0, 0, true));
        isAction("ill as before", x, a -> a.ill(2, 5, true));
        isAction("well", x, a -> a.ill(2, 5, false));
        isAction("well as before", x, a -> a.ill(2, 6, false));
        isAction("slip", x, a -> a.slip(19, 1, 3, 23));
        isAction("lose", x, a -> a.lose(0));
        isAction("lose the last", x, a -> a.lose(1));
        isAction("set", x, a -> a.set(0, 0));
        isAction("set as before", x, a -> a.set(1, 3));
        Recorded y = new Recorded();
        y.set(0, 20);
        y.undo();
        CHECKS.refuses("undo is none", y, Checks.STATE, y::undo);
    }

    private static void whatIsNoAction() {
        CHECKS.sentence("load and restore are not actions.");
        Recorded x = Houses.full();
        x.save(0);
        String behind = Views.behind(x);
        Views.type(x, "B");
        x.errorPosition();
        x.clearText();
        x.save(0);
        for (int what = 0; what <= 6; what++) {
            x.about(what);
        }
        x.played(0, 0);
        x.bill(0, 0, 3);
        x.night(0, 4);
        x.actor(0, 5);
        x.ranked(0, 0);
        x.found(0, 4);
        x.setting(0);
        x.find(0, 0, 0);
        x.together(0, 1);
        x.longest(0, 0);
        x.ifIll(0, 0, 1);
        x.bestUnderstudy(0);
        x.needed();
        x.runScript(1, 40011);
        x.simulate(1, 60);
        CHECKS.same("what asks or saves is no action either", behind, Views.behind(x));
        x.restore(0);
        CHECKS.refuses("restore is none", x, Checks.STATE, x::undo);
        Views.type(x, "Ba0");
        x.load();
        CHECKS.refuses("load is none", x, Checks.STATE, x::undo);
    }

    private static void whatTheStateIs() {
        CHECKS.sentence("the state, which consists of everything but the text and the save slots.");
        Recorded x = Houses.small();
        x.set(0, 50);
        x.save(0);
        Views.type(x, "Bp");
        x.addPart();
        x.save(1);
        x.append('p');
        CHECKS.same("undo", 1, x.undo());
        CHECKS.same("undo", 0, x.undo());
        CHECKS.same("the state is that of before", 20, x.setting(0));
        CHECKS.same("the text stays", 3, x.clearText());
        x.restore(1);
        CHECKS.same("slot 1 stays", 3, x.about(0));
        x.restore(0);
        CHECKS.same("slot 0 stays", 2, x.about(0));
        CHECKS.same("slot 0 stays", 50, x.setting(0));
    }
}
