/** The edges of promises 1 to 5: a new object, the text buffer, what is a run, and loading. */
public final class TextEdgesTest {
    private static final Checks CHECKS = new Checks("TextEdgesTest");
    private static final String COMMANDS = "apcuis";

    private TextEdgesTest() {
    }

    public static void main(String[] args) {
        newObject();
        append();
        clearText();
        errorPosition();
        firstSign();
        commandSigns();
        digits();
        tooShort();
        firstFault();
        load();
        commands();
        leftOut();
        loadMakesNew();
        CHECKS.end();
    }

    private static void newObject() {
        CHECKS.sentence("Creates an archive without parts, actors and slips.");
        Recorded x = new Recorded();
        for (int what = 0; what <= 6; what++) {
            CHECKS.same("about " + what, what == 3 ? 20 : 0, x.about(what));
        }
        CHECKS.same("the text is empty", 0, x.clearText());
        CHECKS.same("nobody is needed", -1, x.needed());
        CHECKS.refuses("part 0", x, Checks.INDEX, () -> x.ranked(0, 0));
        CHECKS.refuses("actor 0", x, Checks.INDEX, () -> x.actor(0, 0));
        CHECKS.refuses("slip 0", x, Checks.INDEX, () -> x.found(0, 0));
        CHECKS.refuses("nothing is remembered", x, Checks.STATE, x::undo);
        CHECKS.refuses("nothing is saved", x, Checks.STATE, () -> x.restore(0));
        CHECKS.refuses("nothing is saved", x, Checks.STATE, () -> x.restore(1));
        CHECKS.refuses("no text is no run", x, Checks.STATE, x::load);
    }

    private static void append() {
        CHECKS.sentence("The object has a text buffer of at most 120 characters.");
        Recorded x = new Recorded();
        x.append('B');
        for (int length = 2; length <= 120; length++) {
            CHECKS.same("the new length", length, x.append('p'));
        }
        CHECKS.refuses("the 121st", x, Checks.STATE, () -> x.append('p'));
        CHECKS.refuses("the 121st, of code 0", x, Checks.STATE, () -> x.append(0));
        CHECKS.refuses("the 121st, of code 255", x, Checks.STATE, () -> x.append(255));
        CHECKS.same("a full text is a run too", -1, x.errorPosition());
        CHECKS.same("the previous length", 120, x.clearText());
        for (int length = 1; length <= 120; length++) {
            CHECKS.same("once more", length, x.append(length));
        }
        CHECKS.refuses("the 121st", x, Checks.STATE, () -> x.append('p'));
        CHECKS.sentence("character code, 0 to 255");
        Recorded y = new Recorded();
        CHECKS.same("the least", 1, y.append(0));
        CHECKS.same("the greatest", 2, y.append(255));
        for (int c : new int[] {-1, 256, 'p' + 256, 'p' - 256, 65536, Integer.MIN_VALUE, Integer.MAX_VALUE}) {
            CHECKS.refuses("code " + c, y, Checks.ARGUMENT, () -> y.append(c));
            CHECKS.refuses("code " + c + " in a full text", x, Checks.ARGUMENT, () -> x.append(c));
        }
        CHECKS.same("two signs", 2, y.clearText());
        CHECKS.sentence("if the text already has 120 characters");
        Recorded z = Views.loaded("Ba5pc0000");
        Views.type(z, "B" + "p".repeat(119));
        CHECKS.refuses("one more", z, Checks.STATE, () -> z.append('p'));
        CHECKS.same("load does not make room", 113, z.load());
        CHECKS.refuses("one more", z, Checks.STATE, () -> z.append('p'));
    }

    private static void clearText() {
        CHECKS.sentence("Returns the previous length of the text.");
        Recorded x = Houses.small();
        x.set(0, 1);
        String state = Views.state(x);
        String behind = Views.behind(x);
        CHECKS.same("empty", 0, x.clearText());
        x.append('x');
        CHECKS.same("one", 1, x.clearText());
        CHECKS.same("empty again", 0, x.clearText());
        Views.type(x, "Bpppp");
        CHECKS.same("a run", 5, x.clearText());
        CHECKS.same("the state stays", state, Views.state(x));
        CHECKS.same("and what is remembered", behind, Views.behind(x));
        x.append('B');
        CHECKS.same("nothing is left of the run", -1, x.errorPosition());
        CHECKS.same("nothing is left of the run", 1, x.clearText());
    }

    /** The error position in the text, also with more behind it, if it does not hang on the end. */
    private static void position(String text, int want) {
        Recorded x = new Recorded();
        Views.type(x, text);
        CHECKS.same("error position of " + text, want, x.errorPosition());
        if (want >= 0 && want < text.length() && text.length() < 120) {
            x.append('p');
            CHECKS.same("error position of " + text + "p", want, x.errorPosition());
        }
    }

    private static void errorPosition() {
        CHECKS.sentence("Returns the error position of the text; NONE if it is a run.");
        position("B", -1);
        position("Bp", -1);
        position("Ba0a9pc0000c5919u00u59i000i919s000000s195923", -1);
        Recorded x = Houses.full();
        x.save(1);
        Views.type(x, "Bpx");
        String before = Views.of(x);
        CHECKS.same("checked", 2, x.errorPosition());
        CHECKS.same("the same again", 2, x.errorPosition());
        CHECKS.same("checking changes nothing", before, Views.of(x));
    }

    private static void firstSign() {
        CHECKS.sentence("A run as a text is the letter B, and then any number of commands");
        for (int c = 0; c <= 255; c++) {
            position("" + (char) c, c == 'B' ? -1 : 0);
        }
        position("BB", 1);
        position("pB", 0);
        for (int commands = 0; commands <= 119; commands++) {
            position("B" + "p".repeat(commands), -1);
        }
    }

    private static void commandSigns() {
        CHECKS.sentence("There are no blanks.");
        position(" B", 0);
        position("B ", 1);
        position("Bp ", 2);
        position("Bp p", 2);
        position("Ba 1", 2);
        position("Ba1 ", 3);
        position("Bc00 0", 4);
        position("Bs00001 ", 7);
        CHECKS.sentence("The error position is the index of the first character "
            + "that these rules do not allow at its place");
        String[] runs = {"B", "Ba9", "Bp", "Bc5919", "Bu59", "Bi919", "Bs195923", "Bs195909"};
        for (String run : runs) {
            for (int c = 0; c <= 255; c++) {
                boolean isCommand = COMMANDS.indexOf(c) >= 0;
                boolean isWhole = c == 'p';
                position(run + (char) c, isWhole ? -1 : isCommand ? run.length() + 1 : run.length());
            }
        }
    }

    /** For each command the greatest number at each of its places, and how many digits it has. */
    private static int[] greatest(char command) {
        return switch (command) {
            case 'a' -> new int[] {9};
            case 'c' -> new int[] {5, 9, 19};
            case 'u' -> new int[] {5, 9};
            case 'i' -> new int[] {9, 19};
            case 's' -> new int[] {19, 5, 9, 23};
            default -> new int[0];
        };
    }

    private static String digitsOf(int number, int greatest) {
        return greatest > 9 && number < 10 ? "0" + number : "" + number;
    }

    private static boolean begins(String digits, int greatest) {
        for (int number = 0; number <= greatest; number++) {
            if (digitsOf(number, greatest).startsWith(digits)) {
                return true;
            }
        }
        return false;
    }

    private static void digits() {
        CHECKS.sentence("(a digit is not allowed if no number that is allowed begins with it and those before it)");
        for (char command : COMMANDS.toCharArray()) {
            int[] greatest = greatest(command);
            String least = "B" + command;
            String most = "B" + command;
            for (int i = 0; i < greatest.length; i++) {
                boolean isLast = i == greatest.length - 1;
                everySign(least, "", greatest[i], isLast);
                everySign(most, "", greatest[i], isLast);
                for (int tens = 0; greatest[i] > 9 && tens <= greatest[i] / 10; tens++) {
                    everySign(least, "" + tens, greatest[i], isLast);
                    everySign(most, "" + tens, greatest[i], isLast);
                }
                least += digitsOf(0, greatest[i]);
                most += digitsOf(greatest[i], greatest[i]);
            }
        }
        position("Bc0020", 4);
        position("Bc0099", 4);
        position("Bi020", 3);
        position("Bs200000", 2);
        position("Bs000024", 7);
        position("Bs000029", 7);
        position("Bs000030", 6);
        position("Bs002924", 7);
        position("Bs006000", 4);
        position("Bc6000", 2);
        position("Bu60", 2);
    }

    /** Each sign behind some digits of a number; those before the number are as they should be. */
    private static void everySign(String before, String digits, int greatest, boolean isLast) {
        String text = before + digits;
        int width = greatest > 9 ? 2 : 1;
        for (int c = 0; c <= 255; c++) {
            boolean isAllowed = c >= '0' && c <= '9' && begins(digits + (char) c, greatest);
            boolean isWhole = isLast && digits.length() + 1 == width;
            position(text + (char) c, !isAllowed ? text.length() : isWhole ? -1 : text.length() + 1);
        }
    }

    private static void tooShort() {
        CHECKS.sentence("if the text ends too soon, it is the length of the text.");
        position("", 0);
        position("B" + "p".repeat(118) + "a", 120);
        position("B" + "p".repeat(118) + "s", 120);
        position("B" + "p".repeat(113) + "s19592", 120);
        position("B" + "p".repeat(112) + "s195923", -1);
        position("B" + "p".repeat(118) + "x", 119);
        position("B" + "p".repeat(119), -1);
        for (String command : new String[] {"a9", "c5919", "u59", "i919", "s195923", "a0", "c0000", "u00",
                "i000", "s000000"}) {
            for (int length = 1; length < command.length(); length++) {
                position("B" + command.substring(0, length), 1 + length);
                position("Bpp" + command.substring(0, length), 3 + length);
                String text = "B" + "p".repeat(119 - length) + command.substring(0, length);
                position(text, 120);
            }
            position("B" + command, -1);
        }
    }

    private static void firstFault() {
        CHECKS.sentence("The text is read from left to right.");
        position("Bxx", 1);
        position("Bpxp", 2);
        position("Ba:a:", 2);
        position("Bc6900", 2);
        position("Bc0:20", 3);
        position("Bs2x", 2);
        position("Bs0xx", 3);
        position("bs2", 0);
        position("Bpa", 3);
        position("Bax", 2);
        CHECKS.same("a part before the first actor is cast", 1, loadAnswer("Bc0000a1pc0000"));
        CHECKS.same("all in time", 0, loadAnswer("Ba1pc0000"));
    }

    private static int loadAnswer(String text) {
        Recorded x = new Recorded();
        Views.type(x, text);
        return x.load();
    }

    private static void load() {
        CHECKS.sentence("if the text is not a run");
        for (String text : new String[] {"", "b", "Bx", "Ba", "Ba5ppa", "Bc591", "B ", "Bs195924", "Bpp\0",
                "Bp" + (char) 255}) {
            Recorded x = Houses.small();
            x.save(0);
            x.set(1, 9);
            x.save(1);
            x.addPart();
            Views.type(x, text);
            CHECKS.refuses("load of " + text, x, Checks.STATE, x::load);
        }
        CHECKS.sentence("Keeps the text.");
        Recorded y = new Recorded();
        Views.type(y, "Ba1pc0000");
        CHECKS.same("load", 0, y.load());
        CHECKS.same("load once more", 0, y.load());
        CHECKS.same("the same actors", 1, y.about(1));
        y.append('p');
        CHECKS.same("one sign more", 0, y.load());
        CHECKS.same("two parts", 2, y.about(0));
        CHECKS.same("the text", 10, y.clearText());
        Views.type(y, "B" + "p".repeat(119));
        y.load();
        CHECKS.same("a full text", 120, y.clearText());
    }

    private static void commands() {
        CHECKS.sentence("c, a digit for a part (0 to 5), one for an actor (0 to 9), and two for a night (00 to 19): "
            + "cast(); u, a digit for a part, and one for an actor: understudy(); i, a digit for an actor, and two for "
            + "a night: ill(), so that the actor is ill; s, two digits for a night, a digit for a part, one for an "
            + "actor, and two for an hour (00 to 23): slip().");
        String house = "Ba9a8a7a6a5a4a3a2a1a0pppppp";
        Recorded most = Views.loaded(house + "c5919u59i919s195923");
        CHECKS.same("fame of the first", 9, most.actor(0, 0));
        CHECKS.same("fame of the last", 0, most.actor(9, 0));
        CHECKS.same("cast", 9, most.bill(19, 5, 0));
        CHECKS.same("not the night before", -1, most.bill(18, 5, 0));
        CHECKS.same("not the part before", -1, most.bill(19, 4, 0));
        CHECKS.same("understudy", 9, most.ranked(5, 0));
        CHECKS.same("one understudy", -1, most.ranked(5, 1));
        CHECKS.same("none of the part before", -1, most.ranked(4, 0));
        CHECKS.same("ill", 512, most.night(19, 2));
        CHECKS.same("not the night before", 0, most.night(18, 2));
        int[] slip = {19, 5, 9, 23, 0};
        Recorded least = Views.loaded(house + "c0000u00i000s000000");
        CHECKS.same("cast", 0, least.bill(0, 0, 0));
        CHECKS.same("all later ones", 0, least.bill(19, 0, 0));
        CHECKS.same("understudy", 0, least.ranked(0, 0));
        CHECKS.same("ill", 1, least.night(0, 2));
        CHECKS.same("not the next night", 0, least.night(1, 2));
        for (int what = 0; what <= 4; what++) {
            CHECKS.same("slip, " + what, slip[what], most.found(0, what));
            CHECKS.same("slip, " + what, 0, least.found(0, what));
        }
        Recorded between = Views.loaded(house + "c1210u34i512s104512s094510");
        CHECKS.same("cast", 2, between.bill(10, 1, 0));
        CHECKS.same("not the night before", -1, between.bill(9, 1, 0));
        CHECKS.same("understudy", 4, between.ranked(3, 0));
        CHECKS.same("ill", 32, between.night(12, 2));
        CHECKS.same("one slip for night 10", 1, between.bill(10, 4, 3));
        CHECKS.same("one slip for night 9", 1, between.bill(9, 4, 3));
        CHECKS.same("the hour 12", 12, between.found(0, 3));
        CHECKS.same("the hour 10", 10, between.found(1, 3));
    }

    private static void leftOut() {
        CHECKS.sentence("Commands that would throw an exception are left out.");
        leavesOut(0, "B" + "a0".repeat(9) + "a9", 10, 0, 0);
        leavesOut(1, "B" + "a0".repeat(10) + "a9", 10, 0, 0);
        leavesOut(0, "Bpppppp", 0, 6, 0);
        leavesOut(1, "Bppppppp", 0, 6, 0);
        leavesOut(0, "Ba0pc0000c0019", 1, 1, 0);
        leavesOut(1, "Ba0pc1000", 1, 1, 0);
        leavesOut(1, "Ba0pc0100", 1, 1, 0);
        leavesOut(0, "B" + "a0".repeat(10) + "ppppppc5919u59i919s195923", 10, 6, 1);
        leavesOut(4, "B" + "a0".repeat(9) + "ppppppc5919u59i919s195923", 9, 6, 0);
        leavesOut(3, "B" + "a0".repeat(10) + "pppppc5919u59i919s195923", 10, 5, 0);
        leavesOut(4, "Bc0000u00i000s000000", 0, 0, 0);
        leavesOut(1, "Ba0pu00u00", 1, 1, 0);
        leavesOut(0, "Ba0a0a0a0a0pu00u01u02u03", 5, 1, 0);
        leavesOut(1, "Ba0a0a0a0a0pu00u01u02u03u04", 5, 1, 0);
        leavesOut(0, "Ba0i000i000i019", 1, 0, 0);
        leavesOut(0, "Ba0p" + "s000000".repeat(16), 1, 1, 16);
        CHECKS.sentence("Returns the number of commands that are left out.");
        leavesOut(0, "B", 0, 0, 0);
        leavesOut(113, "B" + "p".repeat(119), 0, 6, 0);
        leavesOut(49, "B" + "a7".repeat(59), 10, 0, 0);
        leavesOut(17, "B" + "s000000".repeat(17), 0, 0, 0);
        CHECKS.sentence("ill(), so that the actor is ill");
        Recorded x = Views.loaded("Ba1i004i004i019");
        CHECKS.same("on two nights", 2, x.actor(0, 5));
        CHECKS.same("on night 4", 1, x.night(4, 2));
        CHECKS.same("on night 19", 1, x.night(19, 2));
    }

    private static void leavesOut(int want, String text, int actors, int parts, int slips) {
        Recorded x = new Recorded();
        Views.type(x, text);
        CHECKS.same("load of " + text, want, x.load());
        CHECKS.same("actors of " + text, actors, x.about(1));
        CHECKS.same("parts of " + text, parts, x.about(0));
        CHECKS.same("slips of " + text, slips, x.about(2));
    }

    private static void loadMakesNew() {
        CHECKS.sentence("Makes everything as in a new object, and then does the commands of the text.");
        CHECKS.same("of nothing", Views.of(fresh("B")), Views.of(usedAndLoaded("B")));
        String text = "Ba9a3pppc0002u01u10i105i005s051023s000100c1107p";
        CHECKS.same("of some commands", Views.of(fresh(text)), Views.of(usedAndLoaded(text)));
        Recorded parts = usedAndLoaded("Bpppppp");
        CHECKS.same("no understudy of before", -1, parts.ranked(0, 0));
        CHECKS.same("no principal of before", -1, parts.bill(19, 5, 0));
        CHECKS.same("no slip of before", 0, parts.about(2));
        CHECKS.same("setting 0", 20, parts.setting(0));
        CHECKS.same("setting 1", 3, parts.setting(1));
        Recorded actors = usedAndLoaded("Ba0a0a0a0a0a0a0a0a0a0");
        for (int a = 0; a < 10; a++) {
            CHECKS.same("no illness of before", 0, actors.actor(a, 5));
        }
        CHECKS.sentence("Behind it no state is remembered, and both save slots are empty.");
        for (String run : new String[] {"B", "Bp", text}) {
            Recorded x = usedAndLoaded(run);
            CHECKS.refuses("nothing is remembered", x, Checks.STATE, x::undo);
            CHECKS.refuses("slot 0 is empty", x, Checks.STATE, () -> x.restore(0));
            CHECKS.refuses("slot 1 is empty", x, Checks.STATE, () -> x.restore(1));
        }
        Recorded one = new Recorded();
        one.save(1);
        Views.type(one, "B");
        one.load();
        CHECKS.refuses("the one that was filled is empty", one, Checks.STATE, () -> one.restore(1));
        CHECKS.sentence("load and restore are not actions.");
        Recorded y = usedAndLoaded("Bp");
        y.addPart();
        CHECKS.same("the action behind it alone", 0, y.undo());
        CHECKS.same("to what was loaded", 1, y.about(0));
        CHECKS.refuses("not to what was before", y, Checks.STATE, y::undo);
    }

    private static Recorded fresh(String text) {
        Recorded x = new Recorded();
        Views.type(x, text);
        x.load();
        return x;
    }

    /** Loads the text where much was before: the most of everything, illness, settings, slots, states. */
    private static Recorded usedAndLoaded(String text) {
        Recorded x = Houses.full();
        for (int a = 0; a < 10; a++) {
            x.ill(a, a, true);
            x.ill(a, 19 - a, true);
        }
        x.save(0);
        x.set(0, 99);
        x.save(1);
        x.set(1, 9);
        Views.type(x, text);
        x.load();
        return x;
    }
}
