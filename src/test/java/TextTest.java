/** Promises 1 to 5: a new object, and the text. */
public final class TextTest {
    private static final Checks CHECKS = new Checks("TextTest");

    private TextTest() {
    }

    public static void main(String[] args) {
        newObject();
        append();
        clearText();
        errorPosition();
        everyPlaceOfEveryCommand();
        load();
        loadForgets();
        CHECKS.end();
    }

    private static void newObject() {
        Recorded x = new Recorded();
        CHECKS.same("NONE", -1, BillArchive.NONE);
        int[] want = {0, 0, 0, 20, 0, 0, 0};
        for (int what = 0; what < want.length; what++) {
            CHECKS.same("new: about " + what, want[what], x.about(what));
        }
        CHECKS.same("new: setting 0", 20, x.setting(0));
        CHECKS.same("new: setting 1", 3, x.setting(1));
        CHECKS.same("new: the text is empty", 0, x.clearText());
        CHECKS.same("new: nobody is needed", -1, x.needed());
        for (int n = 0; n < 20; n++) {
            CHECKS.same("new: dark", 1, x.night(n, 0));
            CHECKS.same("new: takings", 0, x.night(n, 1));
        }
        CHECKS.refuses("new: undo", x, IllegalStateException.class, x::undo);
        CHECKS.refuses("new: slot 0", x, IllegalStateException.class, () -> x.restore(0));
        CHECKS.refuses("new: slot 1", x, IllegalStateException.class, () -> x.restore(1));
    }

    private static void append() {
        Recorded x = new Recorded();
        CHECKS.refuses("append -1", x, IllegalArgumentException.class, () -> x.append(-1));
        CHECKS.refuses("append 256", x, IllegalArgumentException.class, () -> x.append(256));
        CHECKS.refuses("append min", x, IllegalArgumentException.class, () -> x.append(Integer.MIN_VALUE));
        CHECKS.same("append 0", 1, x.append(0));
        CHECKS.same("append 255", 2, x.append(255));
        for (int i = 3; i <= 120; i++) {
            CHECKS.same("append", i, x.append('p'));
        }
        CHECKS.refuses("append when full", x, IllegalStateException.class, () -> x.append('p'));
        CHECKS.refuses("append 256 when full", x, IllegalArgumentException.class, () -> x.append(256));
        CHECKS.same("full", 120, x.clearText());
        CHECKS.same("append after clearing", 1, x.append('B'));
        CHECKS.same("appending is no action", "IllegalStateException", Checks.outcome(x::undo));
    }

    private static void clearText() {
        Recorded x = Views.loaded("Ba5pc0000");
        String before = Views.of(x);
        CHECKS.same("clear an empty text", 0, x.clearText());
        Views.type(x, "hello");
        CHECKS.same("clear", 5, x.clearText());
        CHECKS.same("cleared", 0, x.clearText());
        CHECKS.same("clearing leaves the state", before, Views.of(x));
    }

    private static void position(String text, int want) {
        Recorded x = new Recorded();
        Views.type(x, text);
        CHECKS.same("error position of " + text, want, x.errorPosition());
        CHECKS.same("again", want, x.errorPosition());
        CHECKS.same("the text stays", text.length(), x.clearText());
    }

    private static void errorPosition() {
        position("", 0);
        position("b", 0);
        position("p", 0);
        position("B", -1);
        position("BB", 1);
        position("B ", 1);
        position("Bp", -1);
        position("Bpp", -1);
        position("Bp p", 2);
        position("BP", 1);
        position("B0", 1);
        position("Ba", 2);
        position("Baa", 2);
        position("Ba9", -1);
        position("Ba:", 2);
        position("Ba/", 2);
        position("Ba99", 3);
        position("Bc", 2);
        position("Bc6", 2);
        position("Bc59", 4);
        position("Bc592", 4);
        position("Bc591", 5);
        position("Bc5919", -1);
        position("Bc591p", 5);
        position("Bu6", 2);
        position("Bu5", 3);
        position("Bu59", -1);
        position("Bi", 2);
        position("Bi9", 3);
        position("Bi92", 3);
        position("Bi919", -1);
        position("Bs2", 2);
        position("Bs19", 4);
        position("Bs196", 4);
        position("Bs1959", 6);
        position("Bs19593", 6);
        position("Bs19592", 7);
        position("Bs195924", 7);
        position("Bs195923", -1);
        position("Bs195919", -1);
        position("Bs195909", -1);
        position("Bs19591:", 7);
        position("Bs195920s", 9);
        position("Bs19592", 7);
        position("B" + "p".repeat(119), -1);
        position("B" + "p".repeat(118) + "a", 120);
        position("B" + "p".repeat(118) + "x", 119);
    }

    /** All signs 0 to 255 at each place of a run that has every command. */
    private static void everyPlaceOfEveryCommand() {
        String run = "Ba0pc0000u00i000s000000p";
        String[] allowed = {"B", "apcuis", "0-9", "apcuis", "apcuis", "0-5", "0-9", "01", "0-9", "apcuis",
            "0-5", "0-9", "apcuis", "0-9", "01", "0-9", "apcuis", "01", "0-9", "0-5", "0-9", "012", "0-9", "apcuis"};
        for (int at = 0; at < run.length(); at++) {
            String signs = allowed[at].replace("0-9", "0123456789").replace("0-5", "012345");
            for (int c = 0; c <= 255; c++) {
                Recorded x = new Recorded();
                Views.type(x, run.substring(0, at));
                x.append(c);
                boolean isAllowed = signs.indexOf(c) >= 0;
                CHECKS.isTrue("sign " + c + " at " + at, isAllowed == (x.errorPosition() != at));
            }
        }
    }

    private static void load() {
        Recorded x = new Recorded();
        CHECKS.refuses("load of no text", x, IllegalStateException.class, x::load);
        Views.type(x, "Ba5ppa");
        CHECKS.refuses("load of an unended text", x, IllegalStateException.class, x::load);
        Views.type(x, "Ba5a7ppc0000c1110u01u10i105s190007");
        CHECKS.same("load", 0, x.load());
        CHECKS.same("actors", 2, x.about(1));
        CHECKS.same("parts", 2, x.about(0));
        CHECKS.same("fame", 7, x.actor(1, 0));
        CHECKS.same("cast", 0, x.bill(19, 0, 0));
        CHECKS.same("cast from 10 on", -1, x.bill(9, 1, 0));
        CHECKS.same("cast from 10 on", 1, x.bill(10, 1, 0));
        CHECKS.same("understudy", 1, x.ranked(0, 0));
        CHECKS.same("ill", 2, x.night(5, 2));
        CHECKS.same("slip", 7, x.found(0, 3));
        CHECKS.same("slip", 19, x.found(0, 0));
        CHECKS.same("load keeps the text", 34, x.clearText());
        Views.type(x, "Ba5a7ppc0112u10");
        CHECKS.same("load", 0, x.load());
        CHECKS.same("part before actor", 1, x.bill(12, 0, 0));
        CHECKS.same("part before actor", 0, x.ranked(1, 0));
        Views.type(x, "B");
        CHECKS.same("load of nothing", 0, x.load());
        CHECKS.same("nothing", 0, x.about(0) + x.about(1) + x.about(2));
        Views.type(x, "Bc0000u00i000s000000a1a2a3a4a5a6a7a8a9a0a1ppppppp");
        CHECKS.same("left out", 6, x.load());
        CHECKS.same("ten actors", 10, x.about(1));
        CHECKS.same("six parts", 6, x.about(0));
        Views.type(x, "Ba1pu00u00c0100");
        CHECKS.same("an understudy twice and no actor 1", 2, x.load());
        Views.type(x, "Bpa0" + "s000000".repeat(16));
        CHECKS.same("16 slips", 0, x.load());
        CHECKS.same("16 slips", 16, x.about(2));
    }

    private static void loadForgets() {
        Recorded x = Views.loaded("Ba5pc0000");
        x.set(0, 99);
        x.set(1, 9);
        x.save(0);
        x.save(1);
        Views.type(x, "Ba5pc000x");
        CHECKS.refuses("load that throws", x, IllegalStateException.class, x::load);
        CHECKS.same("slot 0 stays after it", 0, x.restore(0));
        x.set(1, 8);
        CHECKS.same("remembered", 0, x.undo());
        x.set(1, 8);
        Views.type(x, "Ba5pc0000");
        CHECKS.same("load", 0, x.load());
        CHECKS.same("setting 0 as in a new object", 20, x.setting(0));
        CHECKS.same("setting 1 as in a new object", 3, x.setting(1));
        CHECKS.refuses("nothing remembered", x, IllegalStateException.class, x::undo);
        CHECKS.refuses("slot 0 is empty", x, IllegalStateException.class, () -> x.restore(0));
        CHECKS.refuses("slot 1 is empty", x, IllegalStateException.class, () -> x.restore(1));
        CHECKS.same("load twice makes the same", 0, x.load());
        CHECKS.same("one actor", 1, x.about(1));
        CHECKS.same("one part", 1, x.about(0));
    }
}
