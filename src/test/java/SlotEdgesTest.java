/** The edges of promises 32 and 33: the save slots. */
public final class SlotEdgesTest {
    private static final Checks CHECKS = new Checks("SlotEdgesTest");

    private SlotEdgesTest() {
    }

    public static void main(String[] args) {
        saveReturns();
        whichSlots();
        storesAllOfTheState();
        restoreReturns();
        restoreForgets();
        slotsKeep();
        emptySlots();
        CHECKS.end();
    }

    private static void saveReturns() {
        CHECKS.sentence("Returns the slips.");
        CHECKS.same("a new object", 0, new Recorded().save(0));
        CHECKS.same("twenty", 20, Houses.full().save(1));
        Recorded x = Houses.full();
        x.lose(19);
        CHECKS.same("nineteen", 19, x.save(0));
        CHECKS.same("the same again", 19, x.save(0));
        CHECKS.same("in the other slot", 19, x.save(1));
    }

    private static void whichSlots() {
        CHECKS.sentence("if there is no such save slot");
        Recorded x = Houses.full();
        x.save(0);
        x.set(1, 8);
        x.save(1);
        x.undo();
        for (int slot : new int[] {-1, 2, Integer.MIN_VALUE, Integer.MAX_VALUE}) {
            CHECKS.refuses("save " + slot, x, Checks.INDEX, () -> x.save(slot));
            CHECKS.refuses("restore " + slot, x, Checks.INDEX, () -> x.restore(slot));
        }
        Recorded y = Houses.small();
        for (int slot : new int[] {-1, 2, Integer.MIN_VALUE, Integer.MAX_VALUE}) {
            CHECKS.refuses("save " + slot, y, Checks.INDEX, () -> y.save(slot));
            CHECKS.refuses("restore " + slot, y, Checks.INDEX, () -> y.restore(slot));
        }
    }

    private static void storesAllOfTheState() {
        CHECKS.sentence("Stores the present state in a save slot.");
        for (int slot = 0; slot <= 1; slot++) {
            for (Recorded made : new Recorded[] {new Recorded(), Houses.small(), Houses.full()}) {
                Recorded x = made.twin();
                String state = Views.state(x);
                String behind = Views.behind(x);
                x.save(slot);
                x.set(0, 99);
                x.undo();
                CHECKS.same("saving leaves the state", state, Views.state(x));
                change(x);
                x.restore(slot);
                CHECKS.same("the state is back in slot " + slot, state, Views.state(x));
                Recorded y = made.twin();
                y.save(slot);
                CHECKS.same("saving is no action", undone(behind), undone(Views.behind(y)));
            }
        }
    }

    private static String undone(String behind) {
        return behind.substring(0, behind.indexOf("\nslot"));
    }

    /** As much as can be changed becomes another. */
    private static void change(Recorded x) {
        x.set(0, 1);
        x.set(1, 1);
        x.outcome(a -> a.addActor(4));
        x.outcome(BillArchive::addPart);
        x.cast(x.about(0) - 1, x.about(1) - 1, 0);
        x.cast(0, 0, 19);
        x.outcome(a -> a.release(0, 6));
        x.outcome(a -> a.understudy(0, 0));
        x.ill(0, 0, true);
        x.ill(x.about(1) - 1, 19, true);
        x.outcome(a -> a.lose(0));
        x.slip(19, 0, 0, 23);
    }

    private static void restoreReturns() {
        CHECKS.sentence("Replaces the state by the one in a save slot, and forgets all remembered states. "
            + "The save slot keeps it.");
        Recorded x = new Recorded();
        x.save(0);
        x.addActor(9);
        x.addPart();
        for (int k = 0; k < 20; k++) {
            x.slip(k, 0, 0, k);
        }
        x.save(1);
        for (int i = 0; i < 3; i++) {
            CHECKS.same("none then", 0, x.restore(0));
            CHECKS.same("no part", 0, x.about(0));
            CHECKS.same("no actor", 0, x.about(1));
            CHECKS.same("twenty then", 20, x.restore(1));
            CHECKS.same("the last one", 19, x.found(19, 0));
            CHECKS.same("each plays", 20, x.about(6));
            x.lose(0);
        }
        CHECKS.same("the same once more", 20, x.restore(1));
        CHECKS.same("and at once again", 20, x.restore(1));
    }

    private static void restoreForgets() {
        CHECKS.sentence("forgets all remembered states.");
        for (int actions : new int[] {0, 1, 13, 14, 15}) {
            Recorded x = Houses.small();
            x.save(1);
            for (int i = 0; i < actions; i++) {
                x.set(0, i);
            }
            x.restore(1);
            CHECKS.refuses("nothing is remembered", x, Checks.STATE, x::undo);
            x.set(1, 9);
            CHECKS.same("but what comes behind it", 0, x.undo());
            CHECKS.same("to what was restored", 20, x.setting(0));
            CHECKS.same("to what was restored", 3, x.setting(1));
            CHECKS.refuses("no further", x, Checks.STATE, x::undo);
        }
    }

    private static void slotsKeep() {
        CHECKS.sentence("The save slot keeps it.");
        Recorded x = Houses.small();
        x.save(0);
        x.set(0, 30);
        x.save(1);
        x.set(0, 40);
        x.undo();
        x.undo();
        CHECKS.same("undo leaves slot 1", 30, restored(x, 1));
        CHECKS.same("and slot 0", 20, restored(x, 0));
        x.set(0, 50);
        x.save(0);
        CHECKS.same("what is saved last", 50, restored(x, 0));
        CHECKS.same("the other slot stays", 30, restored(x, 1));
        Views.type(x, "Bppp");
        CHECKS.same("slot 0", 50, restored(x, 0));
        CHECKS.same("the text stays", 4, x.clearText());
        Views.type(x, "Bx");
        CHECKS.refuses("load of no run", x, Checks.STATE, x::load);
        CHECKS.same("leaves the slots", 30, restored(x, 1));
    }

    private static int restored(Recorded x, int slot) {
        x.restore(slot);
        return x.setting(0);
    }

    private static void emptySlots() {
        CHECKS.sentence("if nothing has been saved in it since the last load");
        Recorded x = Houses.small();
        x.addPart();
        CHECKS.refuses("slot 0 at first", x, Checks.STATE, () -> x.restore(0));
        CHECKS.refuses("slot 1 at first", x, Checks.STATE, () -> x.restore(1));
        x.save(1);
        CHECKS.refuses("slot 0, if slot 1 is filled", x, Checks.STATE, () -> x.restore(0));
        CHECKS.same("slot 1", 0, x.restore(1));
        Recorded y = Houses.small();
        y.save(0);
        CHECKS.refuses("slot 1, if slot 0 is filled", y, Checks.STATE, () -> y.restore(1));
        y.save(1);
        Views.type(y, "Bp");
        y.load();
        CHECKS.refuses("slot 0 behind a load", y, Checks.STATE, () -> y.restore(0));
        CHECKS.refuses("slot 1 behind a load", y, Checks.STATE, () -> y.restore(1));
        y.save(0);
        CHECKS.same("slot 0 once more", 0, y.restore(0));
        CHECKS.same("what was loaded", 1, y.about(0));
        CHECKS.refuses("slot 1 is still empty", y, Checks.STATE, () -> y.restore(1));
        Recorded z = new Recorded();
        CHECKS.refuses("a new object", z, Checks.STATE, () -> z.restore(0));
    }
}
