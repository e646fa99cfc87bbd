/** The edges of promises 24 to 29: finding nights, and what another illness or understudy would change. */
public final class FindEdgesTest {
    private static final Checks CHECKS = new Checks("FindEdgesTest");
    private static final int NONE = BillArchive.NONE;

    private FindEdgesTest() {
    }

    public static void main(String[] args) {
        find();
        together();
        longest();
        ifIllParts();
        ifIllTakings();
        ifIllWhat();
        bestUnderstudy();
        noBestUnderstudy();
        needed();
        changeNothing();
        CHECKS.end();
    }

    private static void find() {
        CHECKS.sentence("Returns the night on which this actor played this part; NONE if there are not so many.");
        Recorded x = Houses.played(6, 10);
        for (int k = 0; k < 20; k++) {
            CHECKS.same("all nights", k, x.find(5, 5, k));
        }
        for (int k : new int[] {20, 21, 32, 64, Integer.MAX_VALUE}) {
            CHECKS.same("not so many", NONE, x.find(5, 5, k));
        }
        CHECKS.same("never", NONE, x.find(5, 4, 0));
        CHECKS.same("never", NONE, x.find(0, 9, 0));
        CHECKS.sentence("which one, from 0, the earliest first");
        x.slip(19, 0, 9, 0);
        CHECKS.same("the last night", 19, x.find(0, 9, 0));
        x.slip(0, 0, 9, 0);
        x.slip(10, 0, 9, 0);
        CHECKS.same("the first night", 0, x.find(0, 9, 0));
        CHECKS.same("the second one", 10, x.find(0, 9, 1));
        CHECKS.same("the third one", 19, x.find(0, 9, 2));
        CHECKS.same("no fourth one", NONE, x.find(0, 9, 3));
        CHECKS.same("in another part", NONE, x.find(1, 9, 0));
        x.ill(5, 0, true);
        CHECKS.same("a dark night is not played", 10, x.find(0, 9, 0));
        CHECKS.same("no third one", NONE, x.find(0, 9, 2));
        CHECKS.same("nor by the others", 1, x.find(4, 4, 0));
        CHECKS.same("no twentieth", NONE, x.find(4, 4, 19));
        CHECKS.sentence("if k is negative");
        for (int k : new int[] {-1, Integer.MIN_VALUE}) {
            CHECKS.refuses("k " + k, x, Checks.ARGUMENT, () -> x.find(0, 9, k));
            CHECKS.refuses("k " + k, x, Checks.ARGUMENT, () -> x.find(5, 0, k));
        }
    }

    private static void together() {
        CHECKS.sentence("Returns the nights on which both play.");
        Recorded x = Houses.played(2, 10);
        CHECKS.same("all", 20, x.together(0, 1));
        CHECKS.same("all, the other way round", 20, x.together(1, 0));
        CHECKS.same("one with oneself", 20, x.together(0, 0));
        CHECKS.same("one of them never plays", 0, x.together(0, 9));
        CHECKS.same("one who never plays with oneself", 0, x.together(9, 9));
        x.slip(0, 0, 9, 0);
        x.slip(19, 1, 9, 0);
        CHECKS.same("the last night", 1, x.together(0, 9));
        CHECKS.same("the first night", 1, x.together(9, 1));
        CHECKS.same("all but two", 18, x.together(0, 1));
        x.slip(19, 0, 8, 0);
        CHECKS.same("two others", 1, x.together(8, 9));
        x.ill(9, 19, true);
        CHECKS.same("one of them is ill", 0, x.together(8, 9));
        x.ill(1, 19, true);
        CHECKS.same("a dark night", 0, x.together(8, 8));
        CHECKS.same("nobody plays", 0, Houses.sized(0, 2).together(0, 1));
    }

    private static void longest() {
        CHECKS.sentence("Returns the greatest number of nights, one behind the other, "
            + "on which the actor plays the part.");
        Recorded x = Houses.played(2, 3);
        CHECKS.same("all", 20, x.longest(1, 1));
        CHECKS.same("none", 0, x.longest(1, 2));
        CHECKS.same("in another part", 0, x.longest(0, 1));
        x.slip(19, 1, 2, 0);
        CHECKS.same("up to the last one", 19, x.longest(1, 1));
        CHECKS.same("the last one", 1, x.longest(1, 2));
        x.slip(0, 1, 2, 0);
        CHECKS.same("neither the first nor the last", 18, x.longest(1, 1));
        CHECKS.same("the first one and the last one", 1, x.longest(1, 2));
        x.ill(0, 10, true);
        CHECKS.same("a dark night between", 9, x.longest(1, 1));
        x.ill(0, 9, true);
        CHECKS.same("the second time is no longer", 8, x.longest(1, 1));
        x.ill(0, 11, true);
        CHECKS.same("the first time is longer", 8, x.longest(1, 1));
        x.slip(1, 1, 2, 0);
        x.slip(18, 1, 2, 0);
        CHECKS.same("two at each end", 2, x.longest(1, 2));
        CHECKS.same("seven between", 7, x.longest(1, 1));
        CHECKS.same("nobody plays", 0, Houses.sized(1, 1).longest(0, 0));
    }

    private static void ifIllParts() {
        CHECKS.sentence("0: the parts for which another actor would be taken on this night, or that would be lost, "
            + "or would not be lost any more, if the actor was ill then, in case of not being ill, or was not, "
            + "in case of being ill, as a set;");
        Recorded x = Houses.played(6, 10);
        CHECKS.same("no part", 0, x.ifIll(9, 0, 0));
        CHECKS.same("part 0 would be lost", 1, x.ifIll(0, 0, 0));
        CHECKS.same("part 5 would be lost", 32, x.ifIll(5, 19, 0));
        x.ill(5, 19, true);
        CHECKS.same("part 5 would not be lost any more", 32, x.ifIll(5, 19, 0));
        CHECKS.same("on a dark night too", 1, x.ifIll(0, 19, 0));
        CHECKS.same("one who is not asked", 0, x.ifIll(9, 19, 0));
        x.understudy(5, 9);
        CHECKS.same("another would be taken", 32, x.ifIll(5, 19, 0));
        CHECKS.same("the part would be lost again", 32, x.ifIll(9, 19, 0));
        CHECKS.same("on a night before it makes nothing", 0, x.ifIll(9, 18, 0));
        Recorded y = Houses.sized(6, 7);
        for (int p = 0; p < 6; p++) {
            y.cast(p, p, 0);
            y.slip(4, p, p + 1, 0);
        }
        CHECKS.same("the principal of part 5 has been taken: it would be lost", 32, y.ifIll(6, 4, 0));
        CHECKS.same("the principal of part 0 has not", 1, y.ifIll(1, 4, 0));
        CHECKS.same("the principal of part 0 is not asked", 0, y.ifIll(0, 4, 0));
        Recorded z = Houses.sized(6, 7);
        for (int p = 0; p < 6; p++) {
            z.understudy(p, p);
            z.understudy(p, p + 1);
        }
        CHECKS.same("all parts move up by one", 63, z.ifIll(0, 0, 0));
        CHECKS.same("the last one alone", 32, z.ifIll(5, 0, 0));
        CHECKS.same("no part", 0, z.ifIll(6, 0, 0));
        Recorded reason = Houses.played(1, 2);
        reason.slip(0, 0, 1, 5);
        reason.slip(0, 0, 0, 4);
        CHECKS.same("another actor by a slip", 1, reason.ifIll(1, 0, 0));
        CHECKS.same("no parts", 0, Houses.sized(0, 1).ifIll(0, 0, 0));
    }

    private static void ifIllTakings() {
        CHECKS.sentence("1: by how much the takings of this night would be more "
            + "(less than 0 if they would be less; it may be the same as NONE)");
        Recorded x = Views.loaded("Ba5a4a9a5pc0000u01u02");
        x.set(1, 1);
        CHECKS.same("the same as NONE", -1, x.ifIll(0, 0, 1));
        x.ill(0, 0, true);
        CHECKS.same("the other way round", 1, x.ifIll(0, 0, 1));
        CHECKS.same("more", 5, x.ifIll(1, 0, 1));
        CHECKS.same("one who does not play", 0, x.ifIll(2, 0, 1));
        CHECKS.same("one of no part", 0, x.ifIll(3, 0, 1));
        x.ill(1, 0, true);
        CHECKS.same("all of them", -29, x.ifIll(2, 0, 1));
        x.ill(2, 0, true);
        CHECKS.same("from a dark night", 20 + 9, x.ifIll(2, 0, 1));
        CHECKS.same("still the last night", -1, x.ifIll(0, 19, 1));
        Recorded y = Houses.played(6, 6);
        y.set(0, 99);
        y.set(1, 9);
        CHECKS.same("the whole takings", -(99 + 9 * 15), y.ifIll(0, 19, 1));
        y.ill(5, 19, true);
        CHECKS.same("dark as it is", 0, y.ifIll(0, 19, 1));
        CHECKS.same("the whole takings", 99 + 9 * 15, y.ifIll(5, 19, 1));
        y.set(0, 0);
        y.set(1, 0);
        CHECKS.same("nothing is taken", 0, y.ifIll(5, 19, 1));
        CHECKS.same("but a part is lost", 32, y.ifIll(5, 19, 0));
    }

    private static void ifIllWhat() {
        CHECKS.sentence("if what is neither 0 nor 1");
        Recorded x = Houses.played(6, 10);
        for (int what : new int[] {-1, 2, Integer.MIN_VALUE, Integer.MAX_VALUE}) {
            CHECKS.refuses("what " + what, x, Checks.ARGUMENT, () -> x.ifIll(0, 0, what));
            CHECKS.refuses("what " + what, x, Checks.ARGUMENT, () -> x.ifIll(9, 19, what));
        }
    }

    private static void bestUnderstudy() {
        CHECKS.sentence("the one with whom, as its last one, the fewest nights would be dark, of several the one with "
            + "whom the takings of all nights would be greatest, of several the lowest;");
        CHECKS.same("all alike: the lowest", 0, Houses.played(1, 10).bestUnderstudy(0));
        Recorded x = Views.loaded("Ba9a0a1a1a0pc0000i000");
        CHECKS.same("of the greatest takings, the lowest", 2, x.bestUnderstudy(0));
        x.ill(2, 0, true);
        CHECKS.same("the other one is better then", 3, x.bestUnderstudy(0));
        x.ill(3, 0, true);
        CHECKS.same("those without fame: the lowest", 1, x.bestUnderstudy(0));
        x.ill(1, 0, true);
        CHECKS.same("the last one", 4, x.bestUnderstudy(0));
        x.ill(4, 0, true);
        CHECKS.same("nobody would help: the lowest", 0, x.bestUnderstudy(0));
        Recorded fewest = Views.loaded("Ba0a0a9pc0000i000i001i200");
        CHECKS.same("fewer dark nights before greater takings", 1, fewest.bestUnderstudy(0));
        fewest.ill(2, 0, false);
        CHECKS.same("as few: the takings", 2, fewest.bestUnderstudy(0));
        fewest.set(1, 0);
        CHECKS.same("takings alike: the lowest", 1, fewest.bestUnderstudy(0));
        Recorded last = Views.loaded("Ba9a0a5a6pc0000u01i000");
        CHECKS.same("only as the last one: no difference", 0, last.bestUnderstudy(0));
        last.ill(1, 0, true);
        CHECKS.same("now it is asked", 3, last.bestUnderstudy(0));
        Recorded other = Views.loaded("Ba9a8a1ppc0000c1100i000i119");
        CHECKS.same("another part's principal is no help", 2, other.bestUnderstudy(0));
        CHECKS.same("on the last night neither", 2, other.bestUnderstudy(1));
        Recorded all = Houses.sized(1, 10);
        all.ill(9, 19, true);
        CHECKS.same("all nights would be played: the lowest of the greatest fame", 8, all.bestUnderstudy(0));
    }

    private static void noBestUnderstudy() {
        CHECKS.sentence("NONE if there are 4 already, or no such actor.");
        Recorded x = Houses.sized(1, 10);
        for (int a = 0; a < 4; a++) {
            CHECKS.isTrue("somebody with " + a, x.bestUnderstudy(0) != NONE);
            x.understudy(0, a);
        }
        CHECKS.same("four already", NONE, x.bestUnderstudy(0));
        x.release(0, 3);
        CHECKS.same("three again", 3, x.bestUnderstudy(0));
        for (int actors = 0; actors <= 4; actors++) {
            Recorded y = Houses.sized(2, actors);
            for (int a = 0; a < actors; a++) {
                y.understudy(1, a);
            }
            CHECKS.same("all of " + actors, NONE, y.bestUnderstudy(1));
            CHECKS.isTrue("not of the other part", actors == 0 == (y.bestUnderstudy(0) == NONE));
        }
        Recorded one = Houses.sized(1, 4);
        one.understudy(0, 0);
        one.understudy(0, 1);
        one.understudy(0, 3);
        CHECKS.same("the one who is left", 2, one.bestUnderstudy(0));
        one.cast(0, 2, 0);
        CHECKS.same("also if the principal", 2, one.bestUnderstudy(0));
    }

    private static void needed() {
        CHECKS.sentence("Returns the actor without whom (ill on all nights) the most nights would be dark, "
            + "of several the lowest; NONE without actors.");
        CHECKS.same("no actors", NONE, new Recorded().needed());
        CHECKS.same("no actors, but parts", NONE, Houses.sized(6, 0).needed());
        CHECKS.same("no parts: the lowest", 0, Houses.sized(0, 10).needed());
        CHECKS.same("one actor", 0, Houses.played(1, 1).needed());
        CHECKS.same("all alike: the lowest", 0, Houses.played(6, 6).needed());
        CHECKS.same("all dark as it is: the lowest", 0, Houses.sized(6, 10).needed());
        Recorded x = Houses.sized(1, 10);
        x.cast(0, 9, 0);
        CHECKS.same("the last one, on all nights", 9, x.needed());
        x.cast(0, 3, 10);
        CHECKS.same("each ten nights: the lowest", 3, x.needed());
        x.cast(0, 9, 19);
        CHECKS.same("eleven against nine", 9, x.needed());
        x.cast(0, 9, 18);
        x.cast(0, 3, 19);
        x.ill(9, 18, true);
        CHECKS.same("a night that is dark already counts for all", 9, x.needed());
        x.cast(0, 3, 9);
        CHECKS.same("eleven against nine, the other way round", 3, x.needed());
        Recorded last = Houses.sized(1, 2);
        last.understudy(0, 0);
        last.cast(0, 1, 0);
        last.ill(0, 19, true);
        CHECKS.same("on the last night alone", 1, last.needed());
        Recorded first = Houses.sized(1, 2);
        first.understudy(0, 0);
        first.cast(0, 1, 0);
        first.ill(0, 0, true);
        CHECKS.same("on the first night alone", 1, first.needed());
    }

    private static void changeNothing() {
        CHECKS.sentence("finding, and what would be; these and all following methods up to the save slots "
            + "change nothing.");
        Recorded x = Houses.full();
        x.save(0);
        x.ill(9, 4, true);
        x.release(5, 9);
        x.save(1);
        String before = Views.of(x);
        x.find(0, 6, 0);
        x.together(0, 9);
        x.longest(5, 5);
        for (int what = 0; what <= 1; what++) {
            x.ifIll(9, 4, what);
            x.ifIll(8, 4, what);
        }
        x.bestUnderstudy(5);
        x.bestUnderstudy(0);
        x.needed();
        x.runScript(3, 400010590060000L);
        x.simulate(7, 60);
        CHECKS.same("nothing", before, Views.of(x));
    }
}
