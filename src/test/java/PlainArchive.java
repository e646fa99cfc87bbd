import java.util.ArrayList;
import java.util.Arrays;
import java.util.HashSet;
import java.util.List;
import java.util.Set;
import java.util.TreeSet;

/**
 * The document told a second time, as plainly as the Java library allows and without a look at
 * BillArchive, so that long runs of calls on both can be compared.
 */
final class PlainArchive {
    private record Slip(int night, int part, int actor, int hour) {
    }

    private static final class Part {
        Integer[] principals = new Integer[20];
        List<Integer> understudies = new ArrayList<>();

        Part copy() {
            Part part = new Part();
            part.principals = principals.clone();
            part.understudies = new ArrayList<>(understudies);
            return part;
        }
    }

    private static final class Actor {
        int fame;
        Set<Integer> ill = new TreeSet<>();

        Actor copy() {
            Actor actor = new Actor();
            actor.fame = fame;
            actor.ill = new TreeSet<>(ill);
            return actor;
        }
    }

    private record Choice(Integer actor, int reason, Slip slip) {
    }

    private List<Part> parts = new ArrayList<>();
    private List<Actor> actors = new ArrayList<>();
    private List<Slip> slips = new ArrayList<>();
    private int[] settings = {20, 3};
    private List<PlainArchive> remembered = new ArrayList<>();
    private PlainArchive[] slots = new PlainArchive[2];
    private StringBuilder text = new StringBuilder();

    private PlainArchive copy() {
        PlainArchive other = new PlainArchive();
        other.take(this);
        return other;
    }

    private void take(PlainArchive other) {
        parts = new ArrayList<>();
        for (Part part : other.parts) {
            parts.add(part.copy());
        }
        actors = new ArrayList<>();
        for (Actor actor : other.actors) {
            actors.add(actor.copy());
        }
        slips = new ArrayList<>(other.slips);
        settings = other.settings.clone();
    }

    private static void index(boolean holds) {
        if (!holds) {
            throw new IndexOutOfBoundsException();
        }
    }

    private static void argument(boolean holds) {
        if (!holds) {
            throw new IllegalArgumentException();
        }
    }

    private static void state(boolean holds) {
        if (!holds) {
            throw new IllegalStateException();
        }
    }

    private void indexNight(int n) {
        index(0 <= n && n < 20);
    }

    private void indexPart(int p) {
        index(0 <= p && p < parts.size());
    }

    private void indexActor(int a) {
        index(0 <= a && a < actors.size());
    }

    private void action() {
        remembered.add(copy());
        if (remembered.size() > 14) {
            remembered.remove(0);
        }
    }

    // ---- who played

    private boolean isWell(int a, int n) {
        return !actors.get(a).ill.contains(n);
    }

    private List<Choice> choices(int n) {
        List<Choice> all = new ArrayList<>();
        Set<Integer> taken = new HashSet<>();
        for (int p = 0; p < parts.size(); p++) {
            Choice choice = choice(n, p, taken);
            all.add(choice);
            if (choice.actor != null) {
                taken.add(choice.actor);
            }
        }
        return all;
    }

    private Choice choice(int n, int p, Set<Integer> taken) {
        List<Choice> asked = new ArrayList<>();
        for (int hour = 23; hour >= 0; hour--) {
            for (int k = slips.size() - 1; k >= 0; k--) {
                Slip slip = slips.get(k);
                if (slip.night == n && slip.part == p && slip.hour == hour) {
                    asked.add(new Choice(slip.actor, 1, slip));
                }
            }
        }
        if (parts.get(p).principals[n] != null) {
            asked.add(new Choice(parts.get(p).principals[n], 2, null));
        }
        for (int a : parts.get(p).understudies) {
            boolean elsewhere = false;
            for (int q = 0; q < parts.size(); q++) {
                elsewhere |= q != p && Integer.valueOf(a).equals(parts.get(q).principals[n]);
            }
            if (!(elsewhere && isWell(a, n))) {
                asked.add(new Choice(a, 3, null));
            }
        }
        for (Choice choice : asked) {
            if (isWell(choice.actor, n) && !taken.contains(choice.actor)) {
                return choice;
            }
        }
        return new Choice(null, 0, null);
    }

    private boolean isDark(int n) {
        return parts.isEmpty() || choices(n).stream().anyMatch(c -> c.actor == null);
    }

    /** Who played, part by part; an empty list if the night is dark. */
    private List<Integer> players(int n) {
        List<Integer> all = new ArrayList<>();
        if (!isDark(n)) {
            choices(n).forEach(c -> all.add(c.actor));
        }
        return all;
    }

    private int takings(int n) {
        if (isDark(n)) {
            return 0;
        }
        int fame = 0;
        for (int a : players(n)) {
            fame += actors.get(a).fame;
        }
        return settings[0] + settings[1] * fame;
    }

    private int allDark() {
        int count = 0;
        for (int n = 0; n < 20; n++) {
            count += isDark(n) ? 1 : 0;
        }
        return count;
    }

    private int allTakings() {
        int sum = 0;
        for (int n = 0; n < 20; n++) {
            sum += takings(n);
        }
        return sum;
    }

    private boolean isPlayedBy(Slip slip) {
        return !isDark(slip.night) && choices(slip.night).get(slip.part).slip == slip;
    }

    // ---- text

    int append(int c) {
        argument(0 <= c && c <= 255);
        state(text.length() < 120);
        text.append((char) c);
        return text.length();
    }

    int clearText() {
        int before = text.length();
        text.setLength(0);
        return before;
    }

    private static final String NIGHT = "[01][0-9]";
    private static final String HOUR = "([01][0-9]|2[0-3])";
    private static final String RUN = "B(a[0-9]|p|c[0-5][0-9]" + NIGHT + "|u[0-5][0-9]|i[0-9]" + NIGHT
        + "|s" + NIGHT + "[0-5][0-9]" + HOUR + ")*";

    int errorPosition() {
        var whole = java.util.regex.Pattern.compile(RUN, java.util.regex.Pattern.DOTALL).matcher(text);
        if (whole.matches()) {
            return -1;
        }
        for (int length = 1; length <= text.length(); length++) {
            var some = java.util.regex.Pattern.compile(RUN, java.util.regex.Pattern.DOTALL)
                .matcher(text.substring(0, length));
            if (!some.matches() && !some.hitEnd()) {
                return length - 1;
            }
        }
        return text.length();
    }

    int load() {
        state(errorPosition() == -1);
        take(new PlainArchive());
        int leftOut = 0;
        String rest = text.substring(1);
        while (!rest.isEmpty()) {
            int length = switch (rest.charAt(0)) {
                case 'a' -> 2;
                case 'p' -> 1;
                case 'c' -> 5;
                case 'u' -> 3;
                case 'i' -> 4;
                default -> 7;
            };
            String command = rest.substring(0, length);
            try {
                obey(command);
            } catch (IndexOutOfBoundsException | IllegalArgumentException | IllegalStateException e) {
                leftOut++;
            }
            rest = rest.substring(length);
        }
        remembered.clear();
        slots = new PlainArchive[2];
        return leftOut;
    }

    private static int number(String command, int from, int to) {
        return Integer.parseInt(command.substring(from, to));
    }

    private void obey(String command) {
        switch (command.charAt(0)) {
            case 'a' -> addActor(number(command, 1, 2));
            case 'p' -> addPart();
            case 'c' -> cast(number(command, 1, 2), number(command, 2, 3), number(command, 3, 5));
            case 'u' -> understudy(number(command, 1, 2), number(command, 2, 3));
            case 'i' -> ill(number(command, 1, 2), number(command, 2, 4), true);
            default -> slip(number(command, 1, 3), number(command, 3, 4), number(command, 4, 5),
                number(command, 5, 7));
        }
    }

    // ---- what there is

    int about(int what) {
        argument(0 <= what && what <= 6);
        switch (what) {
            case 0:
                return parts.size();
            case 1:
                return actors.size();
            case 2:
                return slips.size();
            case 3:
                return allDark();
            case 4:
                return allTakings();
            case 5:
                Set<List<Integer>> bills = new HashSet<>();
                for (int n = 0; n < 20; n++) {
                    if (!isDark(n)) {
                        bills.add(players(n));
                    }
                }
                return bills.size();
            default:
                return (int) slips.stream().filter(this::isPlayedBy).count();
        }
    }

    int played(int n, int p) {
        indexNight(n);
        indexPart(p);
        return isDark(n) ? -1 : players(n).get(p);
    }

    private static int orNone(Integer a) {
        return a == null ? -1 : a;
    }

    int bill(int n, int p, int what) {
        indexNight(n);
        indexPart(p);
        argument(0 <= what && what <= 3);
        return switch (what) {
            case 0 -> orNone(parts.get(p).principals[n]);
            case 1 -> orNone(choices(n).get(p).actor);
            case 2 -> choices(n).get(p).reason;
            default -> (int) slips.stream().filter(s -> s.night == n && s.part == p).count();
        };
    }

    int night(int n, int what) {
        indexNight(n);
        argument(0 <= what && what <= 4);
        int answer = 0;
        switch (what) {
            case 0:
                return isDark(n) ? 1 : 0;
            case 1:
                return takings(n);
            case 2:
                for (int a = 0; a < actors.size(); a++) {
                    answer += isWell(a, n) ? 0 : 1 << a;
                }
                return answer;
            case 3:
                for (int a : players(n)) {
                    answer += 1 << a;
                }
                return answer;
            default:
                List<Integer> players = players(n);
                for (int p = 0; p < players.size(); p++) {
                    answer += players.get(p).equals(parts.get(p).principals[n]) ? 0 : 1;
                }
                return answer;
        }
    }

    private List<Integer> nights(int a) {
        List<Integer> nights = new ArrayList<>();
        for (int n = 0; n < 20; n++) {
            if (players(n).contains(a)) {
                nights.add(n);
            }
        }
        return nights;
    }

    private List<Integer> nights(int p, int a) {
        List<Integer> nights = new ArrayList<>();
        for (int n = 0; n < 20; n++) {
            if (played(n, p) == a) {
                nights.add(n);
            }
        }
        return nights;
    }

    int actor(int a, int what) {
        indexActor(a);
        argument(0 <= what && what <= 5);
        List<Integer> nights = nights(a);
        switch (what) {
            case 0:
                return actors.get(a).fame;
            case 1:
                return nights.size();
            case 2:
                return nights.isEmpty() ? -1 : nights.get(0);
            case 3:
                return nights.isEmpty() ? -1 : nights.get(nights.size() - 1);
            case 4:
                int set = 0;
                for (int p = 0; p < parts.size(); p++) {
                    set += nights(p, a).isEmpty() ? 0 : 1 << p;
                }
                return set;
            default:
                return actors.get(a).ill.size();
        }
    }

    int ranked(int p, int k) {
        indexPart(p);
        argument(k >= 0);
        List<Integer> understudies = parts.get(p).understudies;
        return k < understudies.size() ? understudies.get(k) : -1;
    }

    int found(int k, int what) {
        index(0 <= k && k < slips.size());
        argument(0 <= what && what <= 4);
        Slip slip = slips.get(k);
        return switch (what) {
            case 0 -> slip.night;
            case 1 -> slip.part;
            case 2 -> slip.actor;
            case 3 -> slip.hour;
            default -> isPlayedBy(slip) ? 1 : 0;
        };
    }

    int setting(int what) {
        argument(what == 0 || what == 1);
        return settings[what];
    }

    // ---- actions

    int addActor(int fame) {
        argument(0 <= fame && fame <= 9);
        state(actors.size() < 10);
        action();
        Actor actor = new Actor();
        actor.fame = fame;
        actors.add(actor);
        return actors.size() - 1;
    }

    int addPart() {
        state(parts.size() < 6);
        action();
        parts.add(new Part());
        return parts.size() - 1;
    }

    int cast(int p, int a, int n) {
        indexPart(p);
        indexNight(n);
        if (a != -1) {
            indexActor(a);
        }
        action();
        int before = orNone(parts.get(p).principals[n]);
        Arrays.fill(parts.get(p).principals, n, 20, a == -1 ? null : Integer.valueOf(a));
        return before;
    }

    int understudy(int p, int a) {
        indexPart(p);
        indexActor(a);
        List<Integer> understudies = parts.get(p).understudies;
        state(understudies.size() < 4 && !understudies.contains(a));
        action();
        understudies.add(a);
        return understudies.size();
    }

    int release(int p, int a) {
        indexPart(p);
        indexActor(a);
        int rank = parts.get(p).understudies.indexOf(a);
        state(rank >= 0);
        action();
        parts.get(p).understudies.remove(rank);
        return rank;
    }

    int ill(int a, int n, boolean is) {
        indexActor(a);
        indexNight(n);
        action();
        if (is) {
            actors.get(a).ill.add(n);
        } else {
            actors.get(a).ill.remove(n);
        }
        return actors.get(a).ill.size();
    }

    int slip(int n, int p, int a, int hour) {
        indexNight(n);
        indexPart(p);
        indexActor(a);
        argument(0 <= hour && hour <= 23);
        state(slips.size() < 20);
        action();
        slips.add(new Slip(n, p, a, hour));
        return slips.size() - 1;
    }

    int lose(int k) {
        index(0 <= k && k < slips.size());
        action();
        slips.remove(k);
        return slips.size();
    }

    int set(int what, int v) {
        argument(what == 0 && 0 <= v && v <= 99 || what == 1 && 0 <= v && v <= 9);
        action();
        int before = settings[what];
        settings[what] = v;
        return before;
    }

    int undo() {
        state(!remembered.isEmpty());
        take(remembered.remove(remembered.size() - 1));
        return remembered.size();
    }

    // ---- finding, and what would be

    int find(int p, int a, int k) {
        indexPart(p);
        indexActor(a);
        argument(k >= 0);
        List<Integer> nights = nights(p, a);
        return k < nights.size() ? nights.get(k) : -1;
    }

    int together(int a, int b) {
        indexActor(a);
        indexActor(b);
        List<Integer> both = nights(a);
        both.retainAll(nights(b));
        return both.size();
    }

    int longest(int p, int a) {
        indexPart(p);
        indexActor(a);
        List<Integer> nights = nights(p, a);
        int best = 0;
        for (int from = 0; from < 20; from++) {
            int length = 0;
            while (nights.contains(from + length)) {
                length++;
            }
            best = Math.max(best, length);
        }
        return best;
    }

    int ifIll(int a, int n, int what) {
        indexActor(a);
        indexNight(n);
        argument(what == 0 || what == 1);
        PlainArchive other = copy();
        other.ill(a, n, isWell(a, n));
        if (what == 1) {
            return other.takings(n) - takings(n);
        }
        int set = 0;
        for (int p = 0; p < parts.size(); p++) {
            set += bill(n, p, 1) == other.bill(n, p, 1) ? 0 : 1 << p;
        }
        return set;
    }

    int bestUnderstudy(int p) {
        indexPart(p);
        if (parts.get(p).understudies.size() == 4) {
            return -1;
        }
        int best = -1;
        long bestWorth = Long.MIN_VALUE;
        for (int a = 0; a < actors.size(); a++) {
            if (!parts.get(p).understudies.contains(a)) {
                PlainArchive other = copy();
                other.understudy(p, a);
                long worth = -1000000L * other.allDark() + other.allTakings();
                if (worth > bestWorth) {
                    best = a;
                    bestWorth = worth;
                }
            }
        }
        return best;
    }

    int needed() {
        int best = -1;
        int most = -1;
        for (int a = 0; a < actors.size(); a++) {
            PlainArchive other = copy();
            for (int n = 0; n < 20; n++) {
                other.ill(a, n, true);
            }
            if (other.allDark() > most) {
                best = a;
                most = other.allDark();
            }
        }
        return best;
    }

    // ---- scripts, simulations

    int runScript(int n, long script) {
        argument(1 <= n && n <= 3 && script >= 0 && Long.toString(script).length() <= 5 * n);
        String digits = "0".repeat(5 * n - Long.toString(script).length()) + script;
        PlainArchive other = copy();
        for (int i = 0; i < n; i++) {
            boolean succeeds;
            try {
                succeeds = other.obeyGroup(digits.substring(5 * i, 5 * i + 5));
            } catch (IndexOutOfBoundsException | IllegalArgumentException | IllegalStateException e) {
                succeeds = false;
            }
            if (!succeeds) {
                return i;
            }
        }
        return -1;
    }

    private boolean obeyGroup(String g) {
        if (g.matches("1....")) {
            cast(number(g, 1, 2), number(g, 2, 3), number(g, 3, 5));
        } else if (g.matches("2..00")) {
            understudy(number(g, 1, 2), number(g, 2, 3));
        } else if (g.matches("3..00")) {
            release(number(g, 1, 2), number(g, 2, 3));
        } else if (g.matches("4...[01]")) {
            ill(number(g, 1, 2), number(g, 2, 4), g.endsWith("1"));
        } else if (g.matches("5....")) {
            slip(number(g, 1, 3), number(g, 3, 4), number(g, 4, 5), 12);
        } else if (g.matches("6..00")) {
            lose(number(g, 1, 3));
        } else if (g.matches("7....")) {
            indexActor(number(g, 4, 5));
            return played(number(g, 1, 3), number(g, 3, 4)) == number(g, 4, 5);
        } else if (g.matches("8..0[01]")) {
            return night(number(g, 1, 3), 0) == number(g, 4, 5);
        } else if (g.matches("900..")) {
            return allDark() <= number(g, 3, 5);
        } else {
            return false;
        }
        return true;
    }

    int simulate(long seed, int m) {
        argument(1 <= m && m <= 60);
        PlainArchive other = copy();
        long x = seed;
        for (int i = 0; i < m; i++) {
            x = x * 6364136223846793005L + 1442695040888963407L;
            try {
                other.turn((int) (x >>> 33));
            } catch (IndexOutOfBoundsException | IllegalArgumentException | IllegalStateException e) {
                continue;
            }
        }
        return 100000 * other.allDark() + other.allTakings();
    }

    private void turn(int r) {
        int q = r / 8;
        switch (r % 8) {
            case 0, 1 -> cast(q % 6, q / 6 % 10, q / 64 % 20);
            case 2 -> understudy(q % 6, q / 6 % 10);
            case 3, 4, 5 -> ill(q % 10, q / 16 % 20, q / 512 % 3 > 0);
            case 6 -> slip(q % 20, q / 32 % 6, q / 256 % 10, q / 4096 % 24);
            default -> lose(q % 20);
        }
    }

    // ---- save slots

    int save(int slot) {
        index(slot == 0 || slot == 1);
        slots[slot] = copy();
        return slips.size();
    }

    int restore(int slot) {
        index(slot == 0 || slot == 1);
        state(slots[slot] != null);
        take(slots[slot]);
        remembered.clear();
        return slips.size();
    }
}
