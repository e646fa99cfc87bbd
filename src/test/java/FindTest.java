/** Promises 24 to 29: finding, and what would be. */
public final class FindTest {
    private static final Checks CHECKS = new Checks("FindTest");
    private static final Class<IndexOutOfBoundsException> INDEX = IndexOutOfBoundsException.class;
    private static final Class<IllegalArgumentException> ARGUMENT = IllegalArgumentException.class;

    private FindTest() {
    }

    public static void main(String[] args) {
        find();
        together();
        longest();
        ifIll();
        bestUnderstudy();
        needed();
        CHECKS.end();
    }

    private static Recorded house() {
        return Views.loaded("Ba1a2a3a4ppc0000c1100");
    }

    private static void find() {
        Recorded x = house();
        x.slip(3, 0, 2, 1);
        x.slip(17, 0, 2, 1);
        x.slip(9, 0, 2, 1);
        x.slip(5, 1, 2, 1);
        x.slip(6, 0, 2, 1);
        x.ill(1, 6, true);
        CHECKS.same("the earliest", 3, x.find(0, 2, 0));
        CHECKS.same("the next", 9, x.find(0, 2, 1));
        CHECKS.same("the last", 17, x.find(0, 2, 2));
        CHECKS.same("no more", -1, x.find(0, 2, 3));
        CHECKS.same("a great k", -1, x.find(0, 2, Integer.MAX_VALUE));
        CHECKS.same("another part", 5, x.find(1, 2, 0));
        CHECKS.same("never", -1, x.find(0, 3, 0));
        CHECKS.same("night 0", 0, x.find(0, 0, 0));
        CHECKS.same("night 19", 19, x.find(1, 1, 17));
        CHECKS.refuses("k -1", x, ARGUMENT, () -> x.find(0, 0, -1));
        CHECKS.refuses("part first", x, INDEX, () -> x.find(2, 0, -1));
        CHECKS.refuses("actor first", x, INDEX, () -> x.find(0, 4, -1));
        CHECKS.refuses("part -1", x, INDEX, () -> x.find(-1, 0, 0));
        CHECKS.refuses("actor -1", x, INDEX, () -> x.find(0, -1, 0));
    }

    private static void together() {
        Recorded x = house();
        x.ill(0, 4, true);
        x.slip(7, 0, 2, 0);
        x.slip(8, 1, 2, 0);
        CHECKS.same("both", 17, x.together(0, 1));
        CHECKS.same("the other way", 17, x.together(1, 0));
        CHECKS.same("with another", 1, x.together(1, 2));
        CHECKS.same("with oneself", 18, x.together(0, 0));
        CHECKS.same("never", 0, x.together(3, 3));
        CHECKS.refuses("actor 4", x, INDEX, () -> x.together(4, 0));
        CHECKS.refuses("actor 4", x, INDEX, () -> x.together(0, 4));
        CHECKS.refuses("actor -1", x, INDEX, () -> x.together(-1, 0));
        CHECKS.refuses("actor -1", x, INDEX, () -> x.together(0, -1));
    }

    private static void longest() {
        Recorded x = house();
        CHECKS.same("all nights", 20, x.longest(0, 0));
        CHECKS.same("never", 0, x.longest(0, 1));
        x.slip(6, 0, 2, 0);
        x.slip(7, 0, 2, 0);
        CHECKS.same("to the end", 12, x.longest(0, 0));
        CHECKS.same("two", 2, x.longest(0, 2));
        x.ill(1, 13, true);
        CHECKS.same("a dark night ends it", 6, x.longest(0, 0));
        CHECKS.same("another part", 0, x.longest(1, 0));
        x.cast(0, 2, 16);
        CHECKS.same("from the first night", 6, x.longest(0, 0));
        CHECKS.refuses("part 2", x, INDEX, () -> x.longest(2, 0));
        CHECKS.refuses("part -1", x, INDEX, () -> x.longest(-1, 0));
        CHECKS.refuses("actor 4", x, INDEX, () -> x.longest(0, 4));
        CHECKS.refuses("actor -1", x, INDEX, () -> x.longest(0, -1));
    }

    private static void ifIll() {
        Recorded x = house();
        x.understudy(0, 2);
        CHECKS.same("another would be taken", 1, x.ifIll(0, 3, 0));
        CHECKS.same("the takings", 3 * (3 - 1), x.ifIll(0, 3, 1));
        CHECKS.same("a part would be lost", 2, x.ifIll(1, 3, 0));
        CHECKS.same("all takings", -(20 + 3 * 3), x.ifIll(1, 3, 1));
        CHECKS.same("nothing", 0, x.ifIll(3, 3, 0));
        CHECKS.same("nothing", 0, x.ifIll(3, 3, 1));
        x.ill(1, 3, true);
        CHECKS.same("not lost any more", 2, x.ifIll(1, 3, 0));
        CHECKS.same("not dark any more", 29, x.ifIll(1, 3, 1));
        CHECKS.same("another in the dark", 1, x.ifIll(0, 3, 0));
        CHECKS.same("still dark", 0, x.ifIll(0, 3, 1));
        x.slip(5, 0, 1, 0);
        x.slip(5, 1, 2, 0);
        CHECKS.same("both change", 1, x.ifIll(1, 5, 0));
        CHECKS.same("both change", 2, x.ifIll(2, 5, 0));
        x.understudy(1, 0);
        x.slip(6, 0, 0, 0);
        x.slip(6, 0, 1, 9);
        x.slip(6, 1, 0, 5);
        CHECKS.same("both change", 3, x.ifIll(1, 6, 0));
        x.set(1, 1);
        x.cast(0, 2, 10);
        x.understudy(0, 1);
        x.cast(1, 3, 10);
        CHECKS.same("as much as NONE", -1, x.ifIll(2, 12, 1));
        CHECKS.refuses("what 2", x, ARGUMENT, () -> x.ifIll(0, 0, 2));
        CHECKS.refuses("what -1", x, ARGUMENT, () -> x.ifIll(0, 0, -1));
        CHECKS.refuses("actor first", x, INDEX, () -> x.ifIll(4, 0, 2));
        CHECKS.refuses("night first", x, INDEX, () -> x.ifIll(0, 20, 2));
        CHECKS.refuses("actor -1", x, INDEX, () -> x.ifIll(-1, 0, 0));
        CHECKS.refuses("night -1", x, INDEX, () -> x.ifIll(0, -1, 0));
        String before = Views.of(x);
        x.ifIll(0, 0, 0);
        x.bestUnderstudy(0);
        x.needed();
        CHECKS.same("nothing changes", before, Views.of(x));
    }

    private static void bestUnderstudy() {
        Recorded x = house();
        CHECKS.same("all the same: the lowest", 0, x.bestUnderstudy(0));
        x.ill(0, 3, true);
        CHECKS.same("fewest dark, then takings", 3, x.bestUnderstudy(0));
        x.ill(3, 3, true);
        CHECKS.same("one who is not ill", 2, x.bestUnderstudy(0));
        x.understudy(0, 2);
        CHECKS.same("another one makes no difference", 0, x.bestUnderstudy(0));
        x.understudy(0, 0);
        x.understudy(0, 1);
        CHECKS.same("the only one left", 3, x.bestUnderstudy(0));
        x.understudy(0, 3);
        CHECKS.same("four already", -1, x.bestUnderstudy(0));
        CHECKS.refuses("part 2", x, INDEX, () -> x.bestUnderstudy(2));
        CHECKS.refuses("part -1", x, INDEX, () -> x.bestUnderstudy(-1));
        Recorded few = Views.loaded("Bpa0u00");
        CHECKS.same("no such actor", -1, few.bestUnderstudy(0));
        Recorded nobody = Views.loaded("Bp");
        CHECKS.same("no actors", -1, nobody.bestUnderstudy(0));
        Recorded dark = Views.loaded("Ba1a9a0pc0000i000i001i101");
        CHECKS.same("fewer dark nights before greater takings", 2, dark.bestUnderstudy(0));
        Recorded equal = Views.loaded("Ba1a5a5pc0000i000");
        CHECKS.same("of equals the lowest", 1, equal.bestUnderstudy(0));
    }

    private static void needed() {
        Recorded x = house();
        CHECKS.same("both alike: the lowest", 0, x.needed());
        x.understudy(0, 2);
        CHECKS.same("the one nobody stands in for", 1, x.needed());
        x.understudy(1, 3);
        CHECKS.same("nobody is needed: the lowest", 0, x.needed());
        x.ill(2, 4, true);
        CHECKS.same("one night", 0, x.needed());
        x.ill(3, 4, true);
        x.ill(3, 5, true);
        CHECKS.same("two nights", 1, x.needed());
        Recorded first = Views.loaded("Ba1a1pc0000u01i100");
        CHECKS.same("night 0 counts", 0, first.needed());
        Recorded second = Views.loaded("Ba1a1pc0100u00i000");
        CHECKS.same("night 0 counts", 1, second.needed());
        CHECKS.same("no parts", 0, Views.loaded("Ba1a2").needed());
        CHECKS.same("no actors", -1, Views.loaded("Bp").needed());
    }
}
