import java.util.ArrayList;
import java.util.List;
import java.util.Map;
import java.util.TreeMap;
import java.util.regex.Matcher;
import java.util.regex.Pattern;

/** The sentences of the document that name no edge: what each call is for, in its own words. */
public final class WordsTest {
    private static final Checks CHECKS = new Checks("WordsTest");
    private static final int NONE = BillArchive.NONE;

    private WordsTest() {
    }

    public static void main(String[] args) {
        reasons();
        asked();
        text();
        commands();
        remembered();
        sections();
        otherArguments();
        questions();
        actions();
        finding();
        bestUnderstudy();
        scripts();
        simulations();
        CHECKS.end();
    }

    private static void taken(String label, Recorded x, int p, int actor, int reason) {
        CHECKS.same(label, actor, x.bill(4, p, 1));
        CHECKS.same(label + ": the reason", reason, x.bill(4, p, 2));
    }

    private static void reasons() {
        CHECKS.sentence("is taken (by the first slip of those that tell this one): the reason is 1 for a slip, "
            + "2 for the principal, 3 for an understudy.");
        Recorded x = Views.loaded("Ba1a2a3a4pc0000u01u02s040306");
        taken("the slip", x, 0, 3, 1);
        x.ill(3, 4, true);
        taken("the principal", x, 0, 0, 2);
        x.ill(0, 4, true);
        taken("the first understudy", x, 0, 1, 3);
        x.ill(1, 4, true);
        taken("the second understudy", x, 0, 2, 3);
        x.ill(2, 4, true);
        taken("nobody", x, 0, NONE, 0);
        x.ill(0, 4, false);
        x.slip(4, 0, 0, 0);
        taken("the principal, told by a slip", x, 0, 0, 1);
    }

    private static void asked() {
        CHECKS.sentence("For a part, these are asked one after the other: the actors of its slips");
        Recorded x = Views.loaded("Ba1a2a3a4a5ppc1100u12s041309s041008");
        taken("nobody is ill or taken", x, 1, 3, 1);
        CHECKS.sentence("The first one of these who is not ill, and who has not been taken for a part of this night,");
        x.slip(4, 0, 3, 5);
        taken("the first slip's actor is taken for part 0", x, 1, 0, 1);
        x.lose(1);
        taken("no other slip, so the principal", x, 1, 1, 2);
        x.cast(0, 1, 0);
        x.ill(3, 4, true);
        taken("part 0 takes the principal of both", x, 0, 1, 2);
        taken("so the understudy", x, 1, 2, 3);
        x.slip(4, 0, 2, 23);
        taken("part 0 takes the understudy", x, 0, 2, 1);
        taken("so the principal again", x, 1, 1, 2);
    }

    private static void text() {
        CHECKS.sentence("Returns the new length of the text.");
        Recorded x = new Recorded();
        CHECKS.same("one character", 1, x.append('B'));
        CHECKS.sentence("Appends a character to the text buffer.");
        CHECKS.same("two characters", 2, x.append('a'));
        CHECKS.sentence("`int errorPosition()`: Checks the text.");
        CHECKS.same("the digit is wanted", 2, x.errorPosition());
        CHECKS.same("three characters", 3, x.append('7'));
        CHECKS.same("they stand in their order", NONE, x.errorPosition());
        CHECKS.same("checking does nothing of it", 0, x.about(1));
        x.load();
        CHECKS.same("loading does", 7, x.actor(0, 0));
        CHECKS.sentence("Empties the text buffer.");
        CHECKS.same("three characters", 3, x.clearText());
        CHECKS.same("there is no B", 0, x.errorPosition());
        CHECKS.same("the state stays", 7, x.actor(0, 0));
        CHECKS.same("nothing is left to empty", 0, x.clearText());
    }

    /** What the commands of a text leave behind must be what the calls leave behind. */
    private static void same(String label, String commands, List<Recorded.Call> calls) {
        String begin = "a1a2a3ppc0001";
        Recorded x = Views.loaded("B" + begin);
        for (Recorded.Call call : calls) {
            x.outcome(call);
        }
        CHECKS.same(label, Views.state(x), Views.state(Views.loaded("B" + begin + commands)));
    }

    private static void commands() {
        CHECKS.sentence("a and a digit for fame: addActor(); p: addPart();");
        same("a", "a9a0", List.of(a -> a.addActor(9), a -> a.addActor(0)));
        same("p", "pp", List.of(BillArchive::addPart, BillArchive::addPart));
        same("c", "c1209", List.of(a -> a.cast(1, 2, 9)));
        same("u", "u02u01", List.of(a -> a.understudy(0, 2), a -> a.understudy(0, 1)));
        same("i", "i213", List.of(a -> a.ill(2, 13, true)));
        same("s", "s180107", List.of(a -> a.slip(18, 0, 1, 7)));
        same("all", "p" + "a4" + "c2319" + "u23" + "i319" + "s192323", List.of(BillArchive::addPart,
            a -> a.addActor(4), a -> a.cast(2, 3, 19), a -> a.understudy(2, 3), a -> a.ill(3, 19, true),
            a -> a.slip(19, 2, 3, 23)));
    }

    private static void remembered() {
        CHECKS.sentence("Before each action, the state is remembered.");
        List<Recorded.Call> actions = List.of(a -> a.addActor(9), BillArchive::addPart, a -> a.cast(2, 4, 7),
            a -> a.understudy(2, 1), a -> a.understudy(2, 3), a -> a.release(2, 1), a -> a.ill(4, 8, true),
            a -> a.slip(9, 2, 0, 1), a -> a.slip(9, 2, 1, 1), a -> a.lose(0), a -> a.set(0, 7), a -> a.set(1, 9));
        Recorded x = Houses.small();
        List<String> states = new ArrayList<>();
        for (Recorded.Call action : actions) {
            states.add(Views.state(x));
            x.ask(action);
            CHECKS.isTrue("another state behind action " + states.size(),
                !Views.state(x).equals(states.get(states.size() - 1)));
        }
        CHECKS.sentence("Takes back the last action that is remembered.");
        for (int left = actions.size() - 1; left >= 0; left--) {
            CHECKS.same("still remembered", left, x.undo());
            CHECKS.same("the state before action " + left, states.get(left), Views.state(x));
        }
    }

    /** A call of each method that throws nothing on the archive that remembers() makes. */
    private static Map<String, Recorded.Call> allCalls() {
        Map<String, Recorded.Call> calls = new TreeMap<>();
        calls.put("append", a -> a.append('p'));
        calls.put("clearText", BillArchive::clearText);
        calls.put("errorPosition", BillArchive::errorPosition);
        calls.put("load", BillArchive::load);
        calls.put("about", a -> a.about(3));
        calls.put("played", a -> a.played(1, 2));
        calls.put("bill", a -> a.bill(1, 2, 1));
        calls.put("night", a -> a.night(1, 1));
        calls.put("actor", a -> a.actor(1, 1));
        calls.put("ranked", a -> a.ranked(1, 1));
        calls.put("found", a -> a.found(1, 4));
        calls.put("setting", a -> a.setting(1));
        calls.put("addActor", a -> a.addActor(1));
        calls.put("addPart", BillArchive::addPart);
        calls.put("cast", a -> a.cast(1, 2, 3));
        calls.put("understudy", a -> a.understudy(1, 2));
        calls.put("release", a -> a.release(1, 6));
        calls.put("ill", a -> a.ill(1, 2, true));
        calls.put("slip", a -> a.slip(1, 2, 3, 4));
        calls.put("lose", a -> a.lose(1));
        calls.put("set", a -> a.set(1, 2));
        calls.put("undo", BillArchive::undo);
        calls.put("find", a -> a.find(1, 1, 1));
        calls.put("together", a -> a.together(1, 2));
        calls.put("longest", a -> a.longest(1, 1));
        calls.put("ifIll", a -> a.ifIll(1, 2, 1));
        calls.put("bestUnderstudy", a -> a.bestUnderstudy(1));
        calls.put("needed", BillArchive::needed);
        calls.put("runScript", a -> a.runScript(1, 41021));
        calls.put("simulate", a -> a.simulate(1, 60));
        calls.put("save", a -> a.save(1));
        calls.put("restore", a -> a.restore(0));
        return calls;
    }

    /** How many states undo can bring back. */
    private static int states(Recorded x) {
        Recorded twin = x.twin();
        int count = 0;
        while (!twin.outcome(BillArchive::undo).endsWith("Exception")) {
            count++;
        }
        return count;
    }

    private static void sections() {
        CHECKS.sentence("The methods in the section \"actions\" change the state,");
        Map<String, Recorded.Call> calls = allCalls();
        Matcher section = Pattern.compile("Ahead of the calls ([^.]*?) the interface says: ---- (\\w+)")
            .matcher(CHECKS.document());
        int named = 0;
        while (section.find()) {
            for (String name : section.group(1).replace("`", "").split(", ")) {
                named++;
                CHECKS.isTrue(name + " is a call", calls.containsKey(name));
                remembers(name, calls.get(name), section.group(2).equals("actions") && !name.equals("undo"));
            }
        }
        CHECKS.same("calls in all sections", calls.size(), named);
    }

    private static void remembers(String name, Recorded.Call call, boolean isAction) {
        Recorded x = Views.loaded("Ba1a2a3a4a5a6a7ppppc0000c1100c2200c3300u16u15s000101s010101");
        x.save(0);
        Views.type(x, "Bp");
        x.set(0, 30);
        x.set(0, 40);
        String state = Views.state(x);
        x.ask(call);
        int want = isAction ? 3 : name.equals("undo") ? 1 : name.equals("load") || name.equals("restore") ? 0 : 2;
        CHECKS.same("states remembered behind " + name, want, states(x));
        boolean changes = isAction || want < 2;
        CHECKS.same(name + " changes the state", changes ? 1 : 0, Views.state(x).equals(state) ? 0 : 1);
    }

    private static void otherArguments() {
        CHECKS.sentence("IllegalArgumentException means that another argument is out of its range.");
        Recorded x = Houses.full();
        for (int outside : new int[] {-1, 256, Integer.MIN_VALUE, Integer.MAX_VALUE}) {
            List<Recorded.Call> calls = List.of(a -> a.append(outside), a -> a.about(outside),
                a -> a.bill(0, 0, outside), a -> a.night(0, outside), a -> a.actor(0, outside),
                a -> a.found(0, outside), a -> a.setting(outside), a -> a.addActor(outside),
                a -> a.slip(0, 0, 0, outside), a -> a.set(0, outside), a -> a.set(1, outside),
                a -> a.set(outside, 0), a -> a.ifIll(0, 0, outside), a -> a.runScript(outside, 0),
                a -> a.simulate(0, outside), a -> a.ranked(0, Math.min(outside, -1)),
                a -> a.find(0, 0, Math.min(outside, -1)), a -> a.runScript(1, Math.max(outside, 100000)));
            for (int i = 0; i < calls.size(); i++) {
                Recorded.Call call = calls.get(i);
                Recorded twin = x.twin();
                CHECKS.refuses("call " + i + " with " + outside, twin, Checks.ARGUMENT, () -> twin.ask(call));
            }
        }
    }

    private static void questions() {
        Recorded x = Views.loaded("Ba9a1ppc0000c1100u01i003s051104");
        CHECKS.sentence("Tells who played a part on a night.");
        CHECKS.same("the principal", 0, x.played(0, 0));
        CHECKS.same("the other principal", 1, x.played(0, 1));
        CHECKS.same("nobody, as the understudy plays another part", NONE, x.played(3, 1));
        CHECKS.sentence("Returns a number of a part on a night.");
        CHECKS.same("one slip", 1, x.bill(5, 1, 3));
        CHECKS.sentence("Returns a number of a night.");
        CHECKS.same("the takings", 50, x.night(0, 1));
        CHECKS.sentence("Returns a number of an actor.");
        CHECKS.same("all nights but one", 19, x.actor(1, 1));
        CHECKS.sentence("Returns an understudy of a part.");
        CHECKS.same("the only one", 1, x.ranked(0, 0));
        CHECKS.same("there are not so many", NONE, x.ranked(0, 1));
        CHECKS.sentence("Returns a number of a slip.");
        CHECKS.same("its hour", 4, x.found(0, 3));
        CHECKS.sentence("Returns that setting.");
        CHECKS.same("without fame", 20, x.setting(0));
        CHECKS.same("by fame", 3, x.setting(1));
    }

    private static void actions() {
        Recorded x = Houses.sized(2, 4);
        CHECKS.sentence("Adds an actor.");
        CHECKS.same("its number", 4, x.addActor(6));
        CHECKS.same("its fame", 6, x.actor(4, 0));
        CHECKS.sentence("Returns its number.");
        CHECKS.same("of a part", 2, x.addPart());
        CHECKS.sentence("Adds a slip.");
        CHECKS.same("of a slip", 0, x.slip(7, 2, 4, 9));
        CHECKS.same("there is one", 1, x.about(2));
        CHECKS.sentence("Makes an actor the last understudy of a part.");
        x.understudy(2, 3);
        CHECKS.same("two then", 2, x.understudy(2, 1));
        CHECKS.same("the last one", 1, x.ranked(2, 1));
        CHECKS.sentence("Takes an understudy from a part.");
        CHECKS.same("the rank was", 0, x.release(2, 3));
        CHECKS.same("the other one is left", 1, x.ranked(2, 0));
        CHECKS.same("and nobody else", NONE, x.ranked(2, 1));
        CHECKS.sentence("Changes whether an actor is ill on a night.");
        CHECKS.same("ill", 1, x.ill(2, 6, true));
        CHECKS.same("on that night", 4, x.night(6, 2));
        CHECKS.same("well", 0, x.ill(2, 6, false));
        CHECKS.same("on that night", 0, x.night(6, 2));
        CHECKS.sentence("Changes a setting.");
        x.set(1, 8);
        CHECKS.same("this one", 8, x.setting(1));
        CHECKS.same("not the other", 20, x.setting(0));
    }

    private static void finding() {
        Recorded x = Views.loaded("Ba9a1a4ppc0000c1100u02i005i006i011");
        CHECKS.sentence("Finds a night by who played.");
        CHECKS.same("the first", 5, x.find(0, 2, 0));
        CHECKS.same("the third", 11, x.find(0, 2, 2));
        CHECKS.same("there are not so many", NONE, x.find(0, 2, 3));
        CHECKS.sentence("Counts nights on which two actors play.");
        CHECKS.same("both principals", 17, x.together(0, 1));
        CHECKS.same("one with the understudy", 3, x.together(2, 1));
        CHECKS.same("never", 0, x.together(0, 2));
        CHECKS.sentence("Tells the longest time that an actor plays a part.");
        CHECKS.same("nights 12 to 19", 8, x.longest(0, 0));
        CHECKS.same("nights 5 and 6", 2, x.longest(0, 2));
        CHECKS.sentence("Tells what an illness would change.");
        CHECKS.same("part 0", 1, x.ifIll(0, 0, 0));
        CHECKS.same("4 instead of 9", -15, x.ifIll(0, 0, 1));
        CHECKS.same("9 instead of 4", 15, x.ifIll(0, 5, 1));
        CHECKS.sentence("Finds the actor who is needed most.");
        CHECKS.same("the one without understudies", 1, x.needed());
    }

    private static void bestUnderstudy() {
        CHECKS.sentence("Finds the actor who should be one more understudy of a part. - `p`: part "
            + "Returns of the actors who are none of its understudies the one with whom, as its last one, "
            + "the fewest nights would be dark,");
        Recorded x = Views.loaded("Ba1a9a3a4pc0000i004i104");
        CHECKS.same("the more famous of those who are well", 3, x.bestUnderstudy(0));
        x.understudy(0, 3);
        CHECKS.same("nobody would make a difference: the lowest", 0, x.bestUnderstudy(0));
        x.ill(3, 4, true);
        CHECKS.same("the one who is well", 2, x.bestUnderstudy(0));
        x.understudy(0, 0);
        x.understudy(0, 2);
        CHECKS.same("the only one who is none of them", 1, x.bestUnderstudy(0));
    }

    private static void scripts() {
        CHECKS.sentence("nn and kk are decimal numbers.");
        Recorded x = Houses.full();
        CHECKS.same("slip 10 tells actor 8 for night 10", NONE, x.runScript(1, 71048));
        CHECKS.same("without slip 10, principal 4 plays", NONE, x.runScript(2, 6100071044L));
        CHECKS.same("without slip 9, 8 plays still", NONE, x.runScript(2, 6090071048L));
        CHECKS.same("8 is ill on night 10", NONE, x.runScript(2, 4810171044L));
        CHECKS.same("8 is ill on night 9, and plays on night 10", NONE, x.runScript(2, 4809171048L));
        CHECKS.same("7 is ill on night 9", NONE, x.runScript(2, 4709170933L));
    }

    /** One turn more from a seed, or none of it done: the second x must be made of the first. */
    private static void simulations() {
        CHECKS.sentence("A long x starts as the seed. Each turn first replaces x by x * 6364136223846793005L + "
            + "1442695040888963407L (with long overflow), and r = (int) (x >>> 33) is computed. q is r / 8. "
            + "By r % 8: 0 and 1: cast(q % 6, q / 6 % 10, q / 64 % 20).");
        Recorded x = Houses.played(6, 10);
        int casts = 0;
        int losses = 0;
        for (long seed = -60; seed <= 60; seed++) {
            long next = seed * 6364136223846793005L + 1442695040888963407L;
            int r = (int) (next >>> 33);
            if (r % 8 == 7) {
                losses++;
                CHECKS.same("there is no slip to lose, so the turns behind it", x.simulate(next, 9),
                    x.simulate(seed, 10));
            } else if (r % 8 <= 1) {
                casts++;
                int q = r / 8;
                Recorded done = x.twin();
                done.cast(q % 6, q / 6 % 10, q / 64 % 20);
                CHECKS.same("the cast, and the turns behind it", done.simulate(next, 9), x.simulate(seed, 10));
            }
        }
        CHECKS.isTrue("both kinds are among them: " + casts + ", " + losses, casts > 10 && losses > 5);
    }
}
