/** Promises 32 and 33: the save slots. */
public final class SlotTest {
    private static final Checks CHECKS = new Checks("SlotTest");
    private static final Class<IndexOutOfBoundsException> INDEX = IndexOutOfBoundsException.class;
    private static final Class<IllegalStateException> STATE = IllegalStateException.class;

    private SlotTest() {
    }

    public static void main(String[] args) {
        ranges();
        saveAndRestore();
        theHistory();
        CHECKS.end();
    }

    private static Recorded house() {
        return Views.loaded("Ba1a2a3a4ppc0000c1100u02s190312");
    }

    private static void ranges() {
        Recorded x = house();
        CHECKS.refuses("save -1", x, INDEX, () -> x.save(-1));
        CHECKS.refuses("save 2", x, INDEX, () -> x.save(2));
        CHECKS.refuses("restore -1", x, INDEX, () -> x.restore(-1));
        CHECKS.refuses("restore 2", x, INDEX, () -> x.restore(2));
        CHECKS.refuses("restore 0", x, STATE, () -> x.restore(0));
        CHECKS.refuses("restore 1", x, STATE, () -> x.restore(1));
        CHECKS.same("save", 1, x.save(1));
        CHECKS.refuses("the other one", x, STATE, () -> x.restore(0));
    }

    private static void saveAndRestore() {
        Recorded x = house();
        String first = Views.state(x);
        CHECKS.same("save 0", 1, x.save(0));
        x.slip(3, 1, 3, 3);
        x.addPart();
        x.addActor(9);
        x.set(0, 50);
        x.release(0, 2);
        x.ill(0, 0, true);
        x.cast(1, 4, 7);
        String second = Views.state(x);
        CHECKS.same("save 1", 2, x.save(1));
        x.lose(0);
        x.lose(0);
        CHECKS.same("restore 0", 1, x.restore(0));
        CHECKS.same("the first state", first, Views.state(x));
        CHECKS.same("restore 1", 2, x.restore(1));
        CHECKS.same("the second state", second, Views.state(x));
        x.lose(0);
        CHECKS.same("the slot keeps it", 2, x.restore(1));
        CHECKS.same("the second state again", second, Views.state(x));
        x.lose(1);
        CHECKS.same("save over it", 1, x.save(1));
        CHECKS.same("restore 0", 1, x.restore(0));
        CHECKS.same("restore what was saved last", 1, x.restore(1));
        CHECKS.same("the other slip", 19, x.found(0, 0));
        Views.type(x, "Bpp");
        x.restore(0);
        CHECKS.same("the text stays", 3, x.clearText());
    }

    private static void theHistory() {
        Recorded x = house();
        x.set(0, 1);
        x.save(0);
        x.set(0, 2);
        CHECKS.same("saving is no action", 1, x.undo());
        CHECKS.same("the state before", 1, x.setting(0));
        CHECKS.same("undo leaves the slots", 1, x.restore(0));
        CHECKS.refuses("restore forgets", x, STATE, x::undo);
        x.set(0, 3);
        CHECKS.refuses("a restore that throws", x, STATE, () -> x.restore(1));
        CHECKS.same("forgets nothing", 0, x.undo());
        CHECKS.same("the state saved", 1, x.setting(0));
    }
}
