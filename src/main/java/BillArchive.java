/**
 * An archive of playbills: who played each part on each of twenty nights, and why.
 * What each call answers is told by the numbered promises of DOC.md.
 */
public final class BillArchive {
    public static final int NONE = -1;

    private static final int NIGHTS = 20;
    private static final int MOST_PARTS = 6;
    private static final int MOST_ACTORS = 10;
    private static final int MOST_UNDERSTUDIES = 4;
    private static final int MOST_SLIPS = 20;
    private static final int HOURS = 24;
    private static final int SCRIPT_HOUR = 12;
    private static final int HIGHEST_FAME = 9;
    private static final int SETTINGS = 2;
    private static final int HIGHEST_BASE = 99;
    private static final int HIGHEST_FACTOR = 9;
    private static final int MOST_SIGNS = 120;
    private static final int HIGHEST_SIGN = 255;
    private static final int MOST_REMEMBERED = 14;
    private static final int SLOTS = 2;
    private static final int MOST_COMMANDS = 3;
    private static final int GROUP = 100000;
    private static final int MOST_TURNS = 60;
    private static final int DARK_WEIGHT = 100000;

    private static final int LOST = 0;
    private static final int BY_SLIP = 1;
    private static final int BY_PRINCIPAL = 2;
    private static final int BY_UNDERSTUDY = 3;

    private final State now = new State();
    private final State trial = new State();
    private final History history = new History();
    private final int[] slots = new int[SLOTS * State.SIZE];
    private final boolean[] saved = new boolean[SLOTS];
    private final RunText text = new RunText();
    private final Evening evening = new Evening();
    private final Evening otherwise = new Evening();
    private final Season season = new Season();
    private final int[] bills = new int[NIGHTS];

    public BillArchive() {
    }

    // ---- text

    public int append(int c) throws IllegalArgumentException, IllegalStateException {
        if (c < 0 || c > HIGHEST_SIGN) {
            throw new IllegalArgumentException("no character code");
        }
        if (text.isFull()) {
            throw new IllegalStateException("the text is full");
        }
        text.add(c);
        return text.size();
    }

    public int clearText() {
        int before = text.size();
        text.empty();
        return before;
    }

    public int errorPosition() {
        return text.firstFault();
    }

    public int load() throws IllegalStateException {
        if (text.firstFault() != NONE) {
            throw new IllegalStateException("the text is not a run");
        }
        now.clear();
        history.forget();
        for (int k = 0; k < SLOTS; k++) {
            saved[k] = false;
        }
        int leftOut = 0;
        for (int i = 1; i < text.size(); i += 1 + text.digitsBehind(i)) {
            if (!obeyText(i)) {
                leftOut++;
            }
        }
        return leftOut;
    }

    /** Does the command of the text that begins at i; false if it is left out. */
    private boolean obeyText(int i) {
        switch (text.signAt(i)) {
            case 'a':
                return now.hire(text.digit(i + 1));
            case 'p':
                return now.openPart();
            case 'c':
                return now.recast(text.digit(i + 1), text.digit(i + 2), text.pair(i + 3));
            case 'u':
                return now.addUnderstudy(text.digit(i + 1), text.digit(i + 2));
            case 'i':
                return now.changeIllness(text.digit(i + 1), text.pair(i + 2), true);
            case 's':
                return now.addSlip(text.pair(i + 1), text.digit(i + 3), text.digit(i + 4), text.pair(i + 5));
            default:
                return false;
        }
    }

    // ---- what there is

    public int about(int what) throws IllegalArgumentException {
        switch (what) {
            case 0:
                return now.parts();
            case 1:
                return now.actors();
            case 2:
                return now.slips();
            case 3:
                season.tally(now);
                return season.dark();
            case 4:
                season.tally(now);
                return season.takings();
            case 5:
                return unlikeBills();
            case 6:
                return slipsThatPlay();
            default:
                throw new IllegalArgumentException("what is not 0 to 6");
        }
    }

    private int unlikeBills() {
        int unlike = 0;
        for (int n = 0; n < NIGHTS; n++) {
            evening.workOut(now, n);
            bills[n] = evening.isDark() ? NONE : evening.billAsNumber();
            if (bills[n] != NONE && !hasBillBefore(n, bills[n])) {
                unlike++;
            }
        }
        return unlike;
    }

    private boolean hasBillBefore(int n, int number) {
        for (int earlier = 0; earlier < n && earlier < NIGHTS; earlier++) {
            if (bills[earlier] == number) {
                return true;
            }
        }
        return false;
    }

    private int slipsThatPlay() {
        int count = 0;
        for (int n = 0; n < NIGHTS; n++) {
            evening.workOut(now, n);
            count += evening.slipsPlayed();
        }
        return count;
    }

    public int played(int n, int p) throws IndexOutOfBoundsException {
        requireNight(n);
        requirePart(p);
        evening.workOut(now, n);
        return evening.player(p);
    }

    public int bill(int n, int p, int what) throws IndexOutOfBoundsException, IllegalArgumentException {
        requireNight(n);
        requirePart(p);
        evening.workOut(now, n);
        switch (what) {
            case 0:
                return now.principal(p, n);
            case 1:
                return evening.takenFor(p);
            case 2:
                return evening.reason(p);
            case 3:
                return now.slipsFor(n, p);
            default:
                throw new IllegalArgumentException("what is not 0 to 3");
        }
    }

    public int night(int n, int what) throws IndexOutOfBoundsException, IllegalArgumentException {
        requireNight(n);
        evening.workOut(now, n);
        switch (what) {
            case 0:
                return evening.isDark() ? 1 : 0;
            case 1:
                return evening.takings();
            case 2:
                return now.illOn(n);
            case 3:
                return evening.players();
            case 4:
                return partsOfOthers(n);
            default:
                throw new IllegalArgumentException("what is not 0 to 4");
        }
    }

    /** Counts the parts of the night worked out that somebody plays who is not their principal. */
    private int partsOfOthers(int n) {
        int count = 0;
        for (int p = 0; p < now.parts(); p++) {
            if (!evening.isDark() && evening.player(p) != now.principal(p, n)) {
                count++;
            }
        }
        return count;
    }

    public int actor(int a, int what) throws IndexOutOfBoundsException, IllegalArgumentException {
        requireActor(a);
        switch (what) {
            case 0:
                return now.fame(a);
            case 1:
                return Integer.bitCount(nightsOf(a));
            case 2:
                return firstNight(nightsOf(a));
            case 3:
                return lastNight(nightsOf(a));
            case 4:
                return partsOf(a);
            case 5:
                return now.illNights(a);
            default:
                throw new IllegalArgumentException("what is not 0 to 5");
        }
    }

    private int nightsOf(int a) {
        int nights = 0;
        for (int n = 0; n < NIGHTS; n++) {
            evening.workOut(now, n);
            if (holds(evening.players(), a)) {
                nights |= 1 << n;
            }
        }
        return nights;
    }

    private int nightsOfPart(int p, int a) {
        int nights = 0;
        for (int n = 0; n < NIGHTS; n++) {
            evening.workOut(now, n);
            if (evening.player(p) == a) {
                nights |= 1 << n;
            }
        }
        return nights;
    }

    private int partsOf(int a) {
        int played = 0;
        for (int n = 0; n < NIGHTS; n++) {
            evening.workOut(now, n);
            for (int p = 0; p < now.parts(); p++) {
                if (evening.player(p) == a) {
                    played |= 1 << p;
                }
            }
        }
        return played;
    }

    private static int firstNight(int nights) {
        for (int n = 0; n < NIGHTS; n++) {
            if (holds(nights, n)) {
                return n;
            }
        }
        return NONE;
    }

    private static int lastNight(int nights) {
        for (int n = NIGHTS - 1; n >= 0; n--) {
            if (holds(nights, n)) {
                return n;
            }
        }
        return NONE;
    }

    public int ranked(int p, int k) throws IndexOutOfBoundsException, IllegalArgumentException {
        requirePart(p);
        if (k < 0) {
            throw new IllegalArgumentException("a rank is not negative");
        }
        return now.understudyAt(p, k);
    }

    public int found(int k, int what) throws IndexOutOfBoundsException, IllegalArgumentException {
        requireSlip(k);
        switch (what) {
            case 0:
                return now.slipNight(k);
            case 1:
                return now.slipPart(k);
            case 2:
                return now.slipActor(k);
            case 3:
                return now.slipHour(k);
            case 4:
                evening.workOut(now, now.slipNight(k));
                return !evening.isDark() && evening.slipOf(now.slipPart(k)) == k ? 1 : 0;
            default:
                throw new IllegalArgumentException("what is not 0 to 4");
        }
    }

    public int setting(int what) throws IllegalArgumentException {
        requireSetting(what);
        return now.option(what);
    }

    // ---- actions

    public int addActor(int fame) throws IllegalArgumentException, IllegalStateException {
        if (fame < 0 || fame > HIGHEST_FAME) {
            throw new IllegalArgumentException("fame is not 0 to 9");
        }
        if (!now.canHire(fame)) {
            throw new IllegalStateException("there are 10 actors");
        }
        history.remember(now);
        int a = now.actors();
        now.hire(fame);
        return a;
    }

    public int addPart() throws IllegalStateException {
        if (!now.canOpenPart()) {
            throw new IllegalStateException("there are 6 parts");
        }
        history.remember(now);
        int p = now.parts();
        now.openPart();
        return p;
    }

    public int cast(int p, int a, int n) throws IndexOutOfBoundsException {
        if (!now.canRecast(p, a, n)) {
            throw new IndexOutOfBoundsException("no such part, night or actor");
        }
        history.remember(now);
        int before = now.principal(p, n);
        now.recast(p, a, n);
        return before;
    }

    public int understudy(int p, int a) throws IndexOutOfBoundsException, IllegalStateException {
        requirePart(p);
        requireActor(a);
        if (!now.canAddUnderstudy(p, a)) {
            throw new IllegalStateException("there are 4 understudies, or the actor is one of them");
        }
        history.remember(now);
        now.addUnderstudy(p, a);
        return now.understudies(p);
    }

    public int release(int p, int a) throws IndexOutOfBoundsException, IllegalStateException {
        requirePart(p);
        requireActor(a);
        int rank = now.rankOf(p, a);
        if (rank == NONE) {
            throw new IllegalStateException("the actor is no understudy of the part");
        }
        history.remember(now);
        now.dropUnderstudy(p, a);
        return rank;
    }

    public int ill(int a, int n, boolean is) throws IndexOutOfBoundsException {
        requireActor(a);
        requireNight(n);
        history.remember(now);
        now.changeIllness(a, n, is);
        return now.illNights(a);
    }

    public int slip(int n, int p, int a, int hour)
            throws IndexOutOfBoundsException, IllegalArgumentException, IllegalStateException {
        requireNight(n);
        requirePart(p);
        requireActor(a);
        if (hour < 0 || hour >= HOURS) {
            throw new IllegalArgumentException("an hour is 0 to 23");
        }
        if (!now.canAddSlip(n, p, a, hour)) {
            throw new IllegalStateException("there are 20 slips");
        }
        history.remember(now);
        int k = now.slips();
        now.addSlip(n, p, a, hour);
        return k;
    }

    public int lose(int k) throws IndexOutOfBoundsException {
        requireSlip(k);
        history.remember(now);
        now.dropSlip(k);
        return now.slips();
    }

    public int set(int what, int v) throws IllegalArgumentException {
        requireSetting(what);
        if (v < 0 || v > (what == 0 ? HIGHEST_BASE : HIGHEST_FACTOR)) {
            throw new IllegalArgumentException("the value is out of its range");
        }
        history.remember(now);
        int before = now.option(what);
        now.setOption(what, v);
        return before;
    }

    public int undo() throws IllegalStateException {
        if (history.size() == 0) {
            throw new IllegalStateException("no state is remembered");
        }
        history.takeBack(now);
        return history.size();
    }

    // ---- finding, and what would be

    public int find(int p, int a, int k) throws IndexOutOfBoundsException, IllegalArgumentException {
        requirePart(p);
        requireActor(a);
        if (k < 0) {
            throw new IllegalArgumentException("k is negative");
        }
        int nights = nightsOfPart(p, a);
        int before = 0;
        for (int n = 0; n < NIGHTS; n++) {
            if (holds(nights, n)) {
                if (before == k) {
                    return n;
                }
                before++;
            }
        }
        return NONE;
    }

    public int together(int a, int b) throws IndexOutOfBoundsException {
        requireActor(a);
        requireActor(b);
        return Integer.bitCount(nightsOf(a) & nightsOf(b));
    }

    public int longest(int p, int a) throws IndexOutOfBoundsException {
        requirePart(p);
        requireActor(a);
        int nights = nightsOfPart(p, a);
        int best = 0;
        int run = 0;
        for (int n = 0; n < NIGHTS; n++) {
            run = holds(nights, n) ? run + 1 : 0;
            best = Math.max(best, run);
        }
        return best;
    }

    public int ifIll(int a, int n, int what) throws IndexOutOfBoundsException, IllegalArgumentException {
        requireActor(a);
        requireNight(n);
        if (what != 0 && what != 1) {
            throw new IllegalArgumentException("what is neither 0 nor 1");
        }
        trial.copyOf(now);
        trial.changeIllness(a, n, !holds(now.illOn(n), a));
        evening.workOut(now, n);
        otherwise.workOut(trial, n);
        return what == 0 ? partsChanged() : otherwise.takings() - evening.takings();
    }

    private int partsChanged() {
        int changed = 0;
        for (int p = 0; p < now.parts(); p++) {
            if (evening.takenFor(p) != otherwise.takenFor(p)) {
                changed |= 1 << p;
            }
        }
        return changed;
    }

    public int bestUnderstudy(int p) throws IndexOutOfBoundsException {
        requirePart(p);
        int best = NONE;
        int fewestDark = 0;
        int mostTakings = 0;
        for (int a = 0; a < now.actors(); a++) {
            trial.copyOf(now);
            if (trial.addUnderstudy(p, a)) {
                season.tally(trial);
                if (best == NONE || season.isBetter(fewestDark, mostTakings)) {
                    best = a;
                    fewestDark = season.dark();
                    mostTakings = season.takings();
                }
            }
        }
        return best;
    }

    public int needed() {
        int best = NONE;
        int mostDark = 0;
        for (int a = 0; a < now.actors(); a++) {
            trial.copyOf(now);
            for (int n = 0; n < NIGHTS; n++) {
                trial.changeIllness(a, n, true);
            }
            season.tally(trial);
            if (best == NONE || season.dark() > mostDark) {
                best = a;
                mostDark = season.dark();
            }
        }
        return best;
    }

    // ---- scripts, simulations

    public int runScript(int n, long script) throws IllegalArgumentException {
        if (n < 1 || n > MOST_COMMANDS) {
            throw new IllegalArgumentException("a script has 1 to 3 commands");
        }
        if (script < 0 || groupsAbove(script, n) != 0) {
            throw new IllegalArgumentException("the script is negative or too long");
        }
        trial.copyOf(now);
        for (int i = 0; i < n; i++) {
            int group = (int) (groupsAbove(script, n - 1 - i) % GROUP);
            if (!obeyGroup(group)) {
                return i;
            }
        }
        return NONE;
    }

    /** What is left of the script above so many of its lowest groups. */
    private static long groupsAbove(long script, int groups) {
        long rest = script;
        for (int i = 0; i < groups; i++) {
            rest /= GROUP;
        }
        return rest;
    }

    /** Does a command of a script on the trial; false if it fails. */
    private boolean obeyGroup(int group) {
        int d2 = group / 1000 % 10;
        int d3 = group / 100 % 10;
        int d4 = group / 10 % 10;
        int d5 = group % 10;
        switch (group / 10000) {
            case 1:
                return trial.recast(d2, d3, 10 * d4 + d5);
            case 2:
                return d4 == 0 && d5 == 0 && trial.addUnderstudy(d2, d3);
            case 3:
                return d4 == 0 && d5 == 0 && trial.dropUnderstudy(d2, d3);
            case 4:
                return d5 <= 1 && trial.changeIllness(d2, 10 * d3 + d4, d5 == 1);
            case 5:
                return trial.addSlip(10 * d2 + d3, d4, d5, SCRIPT_HOUR);
            case 6:
                return d4 == 0 && d5 == 0 && trial.dropSlip(10 * d2 + d3);
            case 7:
                return playsInTrial(10 * d2 + d3, d4, d5);
            case 8:
                return d4 == 0 && d5 <= 1 && isDarkInTrial(10 * d2 + d3, d5 == 1);
            case 9:
                season.tally(trial);
                return d2 == 0 && d3 == 0 && season.dark() <= 10 * d4 + d5;
            default:
                return false;
        }
    }

    private boolean playsInTrial(int n, int p, int a) {
        if (!hasNight(n) || !trial.hasPart(p) || !trial.hasActor(a)) {
            return false;
        }
        evening.workOut(trial, n);
        return evening.player(p) == a;
    }

    private boolean isDarkInTrial(int n, boolean dark) {
        if (!hasNight(n)) {
            return false;
        }
        evening.workOut(trial, n);
        return evening.isDark() == dark;
    }

    public int simulate(long seed, int m) throws IllegalArgumentException {
        if (m < 1 || m > MOST_TURNS) {
            throw new IllegalArgumentException("m is not 1 to 60");
        }
        trial.copyOf(now);
        long x = seed;
        for (int i = 0; i < m; i++) {
            x = x * 6364136223846793005L + 1442695040888963407L;
            takeTurn((int) (x >>> 33));
        }
        season.tally(trial);
        return DARK_WEIGHT * season.dark() + season.takings();
    }

    /** Does a turn on the trial; what can't be done there changes nothing. */
    private void takeTurn(int r) {
        int q = r / 8;
        switch (r % 8) {
            case 0:
            case 1:
                trial.recast(q % 6, q / 6 % 10, q / 64 % 20);
                break;
            case 2:
                trial.addUnderstudy(q % 6, q / 6 % 10);
                break;
            case 3:
            case 4:
            case 5:
                trial.changeIllness(q % 10, q / 16 % 20, q / 512 % 3 > 0);
                break;
            case 6:
                trial.addSlip(q % 20, q / 32 % 6, q / 256 % 10, q / 4096 % 24);
                break;
            default:
                trial.dropSlip(q % 20);
                break;
        }
    }

    // ---- save slots

    public int save(int slot) throws IndexOutOfBoundsException {
        requireSlot(slot);
        now.storeIn(slots, slot);
        saved[slot] = true;
        return now.slips();
    }

    public int restore(int slot) throws IndexOutOfBoundsException, IllegalStateException {
        requireSlot(slot);
        if (!saved[slot]) {
            throw new IllegalStateException("nothing has been saved in this slot");
        }
        now.fetchFrom(slots, slot);
        history.forget();
        return now.slips();
    }

    // ---- what the calls ask of their arguments

    private static void requireNight(int n) {
        if (!hasNight(n)) {
            throw new IndexOutOfBoundsException("no such night");
        }
    }

    private void requirePart(int p) {
        if (!now.hasPart(p)) {
            throw new IndexOutOfBoundsException("no such part");
        }
    }

    private void requireActor(int a) {
        if (!now.hasActor(a)) {
            throw new IndexOutOfBoundsException("no such actor");
        }
    }

    private void requireSlip(int k) {
        if (!now.hasSlip(k)) {
            throw new IndexOutOfBoundsException("no such slip");
        }
    }

    private static void requireSetting(int what) {
        if (what < 0 || what >= SETTINGS) {
            throw new IllegalArgumentException("no such setting");
        }
    }

    private static void requireSlot(int slot) {
        if (slot < 0 || slot >= SLOTS) {
            throw new IndexOutOfBoundsException("no such save slot");
        }
    }

    private static boolean hasNight(int n) {
        return isIndex(n, NIGHTS);
    }

    private static boolean isIndex(int i, int size) {
        return i >= 0 && i < size;
    }

    /** Whether a set, given as the bits of a number, holds an element of 0 or more. */
    private static boolean holds(int set, int element) {
        return element >= 0 && (set >>> element & 1) != 0;
    }

    /**
     * A state. All of it stands in one row of numbers, so that remembering, saving and trying out
     * are each a single copy, and no call has to make an object.
     * What can't be done leaves the state as it is, and answers false.
     */
    private static final class State {
        private static final int PARTS_AT = 0;
        private static final int ACTORS_AT = 1;
        private static final int SLIPS_AT = 2;
        private static final int OPTION_AT = 3;
        private static final int FAME_AT = OPTION_AT + SETTINGS;
        private static final int ILL_AT = FAME_AT + MOST_ACTORS;
        private static final int UNDERSTUDIES_AT = ILL_AT + NIGHTS;
        private static final int UNDERSTUDY_AT = UNDERSTUDIES_AT + MOST_PARTS;
        private static final int PRINCIPAL_AT = UNDERSTUDY_AT + MOST_PARTS * MOST_UNDERSTUDIES;
        private static final int SLIP_AT = PRINCIPAL_AT + MOST_PARTS * NIGHTS;
        private static final int SLIP_SIZE = 4;
        private static final int SIZE = SLIP_AT + MOST_SLIPS * SLIP_SIZE;

        private final int[] row = new int[SIZE];

        State() {
            clear();
        }

        void clear() {
            for (int i = 0; i < SIZE; i++) {
                row[i] = 0;
            }
            row[OPTION_AT] = 20;
            row[OPTION_AT + 1] = 3;
        }

        void copyOf(State other) {
            if (other != null) {
                System.arraycopy(other.row, 0, row, 0, SIZE);
            }
        }

        void storeIn(int[] rows, int place) {
            if (isPlace(rows, place)) {
                System.arraycopy(row, 0, rows, place * SIZE, SIZE);
            }
        }

        void fetchFrom(int[] rows, int place) {
            if (isPlace(rows, place)) {
                System.arraycopy(rows, place * SIZE, row, 0, SIZE);
            }
        }

        private static boolean isPlace(int[] rows, int place) {
            return rows != null && place >= 0 && place < rows.length / SIZE;
        }

        int parts() {
            return row[PARTS_AT];
        }

        int actors() {
            return row[ACTORS_AT];
        }

        int slips() {
            return row[SLIPS_AT];
        }

        boolean hasPart(int p) {
            return p >= 0 && p < MOST_PARTS && p < row[PARTS_AT];
        }

        boolean hasActor(int a) {
            return a >= 0 && a < MOST_ACTORS && a < row[ACTORS_AT];
        }

        boolean hasSlip(int k) {
            return k >= 0 && k < MOST_SLIPS && k < row[SLIPS_AT];
        }

        int option(int what) {
            return what >= 0 && what < SETTINGS ? row[OPTION_AT + what] : 0;
        }

        void setOption(int what, int v) {
            if (what >= 0 && what < SETTINGS) {
                row[OPTION_AT + what] = v;
            }
        }

        boolean canHire(int fame) {
            return fame >= 0 && fame <= HIGHEST_FAME && isIndex(row[ACTORS_AT], MOST_ACTORS);
        }

        boolean hire(int fame) {
            if (!canHire(fame)) {
                return false;
            }
            int a = row[ACTORS_AT];
            row[FAME_AT + a] = fame;
            row[ACTORS_AT] = a + 1;
            return true;
        }

        int fame(int a) {
            return a >= 0 && a < MOST_ACTORS ? row[FAME_AT + a] : 0;
        }

        boolean changeIllness(int a, int n, boolean is) {
            if (!hasActor(a) || !hasNight(n)) {
                return false;
            }
            if (is) {
                row[ILL_AT + n] |= 1 << a;
            } else {
                row[ILL_AT + n] &= ~(1 << a);
            }
            return true;
        }

        /** The actors who are ill on a night, as a set; kept so, as each evening worked out asks for it. */
        int illOn(int n) {
            return n >= 0 && n < NIGHTS ? row[ILL_AT + n] : 0;
        }

        int illNights(int a) {
            int nights = 0;
            for (int n = 0; n < NIGHTS; n++) {
                if (holds(row[ILL_AT + n], a)) {
                    nights++;
                }
            }
            return nights;
        }

        boolean canOpenPart() {
            return isIndex(row[PARTS_AT], MOST_PARTS);
        }

        boolean openPart() {
            if (!canOpenPart()) {
                return false;
            }
            int p = row[PARTS_AT];
            row[PARTS_AT] = p + 1;
            row[UNDERSTUDIES_AT + p] = 0;
            return recast(p, NONE, 0);
        }

        boolean canRecast(int p, int a, int n) {
            return hasPart(p) && hasNight(n) && (a == NONE || hasActor(a));
        }

        boolean recast(int p, int a, int n) {
            if (!canRecast(p, a, n)) {
                return false;
            }
            for (int later = n; later < NIGHTS; later++) {
                row[PRINCIPAL_AT + p * NIGHTS + later] = a;
            }
            return true;
        }

        int principal(int p, int n) {
            return p >= 0 && p < MOST_PARTS && n >= 0 && n < NIGHTS ? row[PRINCIPAL_AT + p * NIGHTS + n] : NONE;
        }

        int principalsOn(int n) {
            int actors = 0;
            for (int p = 0; p < row[PARTS_AT]; p++) {
                int a = principal(p, n);
                if (a != NONE) {
                    actors |= 1 << a;
                }
            }
            return actors;
        }

        int understudies(int p) {
            return p >= 0 && p < MOST_PARTS ? row[UNDERSTUDIES_AT + p] : 0;
        }

        int understudyAt(int p, int rank) {
            if (p < 0 || p >= MOST_PARTS || rank < 0 || rank >= MOST_UNDERSTUDIES) {
                return NONE;
            }
            return rank < row[UNDERSTUDIES_AT + p] ? row[UNDERSTUDY_AT + p * MOST_UNDERSTUDIES + rank] : NONE;
        }

        int rankOf(int p, int a) {
            for (int rank = 0; rank < understudies(p); rank++) {
                if (understudyAt(p, rank) == a) {
                    return rank;
                }
            }
            return NONE;
        }

        boolean canAddUnderstudy(int p, int a) {
            return hasPart(p) && hasActor(a) && isIndex(row[UNDERSTUDIES_AT + p], MOST_UNDERSTUDIES)
                && rankOf(p, a) == NONE;
        }

        boolean addUnderstudy(int p, int a) {
            if (!canAddUnderstudy(p, a)) {
                return false;
            }
            int rank = row[UNDERSTUDIES_AT + p];
            row[UNDERSTUDY_AT + p * MOST_UNDERSTUDIES + rank] = a;
            row[UNDERSTUDIES_AT + p] = rank + 1;
            return true;
        }

        boolean dropUnderstudy(int p, int a) {
            if (!hasPart(p) || !hasActor(a)) {
                return false;
            }
            int rank = rankOf(p, a);
            if (rank == NONE) {
                return false;
            }
            int first = UNDERSTUDY_AT + p * MOST_UNDERSTUDIES;
            for (int k = rank; k + 1 < MOST_UNDERSTUDIES; k++) {
                row[first + k] = row[first + k + 1];
            }
            row[UNDERSTUDIES_AT + p]--;
            return true;
        }

        boolean canAddSlip(int n, int p, int a, int hour) {
            return hasNight(n) && hasPart(p) && hasActor(a) && hour >= 0 && hour < HOURS
                && isIndex(row[SLIPS_AT], MOST_SLIPS);
        }

        boolean addSlip(int n, int p, int a, int hour) {
            if (!canAddSlip(n, p, a, hour)) {
                return false;
            }
            int k = row[SLIPS_AT];
            int at = SLIP_AT + k * SLIP_SIZE;
            row[at] = n;
            row[at + 1] = p;
            row[at + 2] = a;
            row[at + 3] = hour;
            row[SLIPS_AT] = k + 1;
            return true;
        }

        boolean dropSlip(int k) {
            if (!hasSlip(k)) {
                return false;
            }
            for (int i = SLIP_AT + k * SLIP_SIZE; i + SLIP_SIZE < SIZE; i++) {
                row[i] = row[i + SLIP_SIZE];
            }
            row[SLIPS_AT]--;
            return true;
        }

        int slipNight(int k) {
            return k >= 0 && k < MOST_SLIPS ? row[SLIP_AT + k * SLIP_SIZE] : NONE;
        }

        int slipPart(int k) {
            return k >= 0 && k < MOST_SLIPS ? row[SLIP_AT + k * SLIP_SIZE + 1] : NONE;
        }

        int slipActor(int k) {
            return k >= 0 && k < MOST_SLIPS ? row[SLIP_AT + k * SLIP_SIZE + 2] : NONE;
        }

        int slipHour(int k) {
            return k >= 0 && k < MOST_SLIPS ? row[SLIP_AT + k * SLIP_SIZE + 3] : NONE;
        }

        int slipsOn(int n) {
            int slips = 0;
            for (int k = 0; k < row[SLIPS_AT]; k++) {
                if (slipNight(k) == n) {
                    slips |= 1 << k;
                }
            }
            return slips;
        }

        int slipsFor(int n, int p) {
            int count = 0;
            for (int k = 0; k < row[SLIPS_AT]; k++) {
                if (slipNight(k) == n && slipPart(k) == p) {
                    count++;
                }
            }
            return count;
        }
    }

    /** Who is taken for each part of one night. */
    private static final class Evening {
        private final int[] taken = new int[MOST_PARTS];
        private final int[] reasons = new int[MOST_PARTS];
        private final int[] slipsTaken = new int[MOST_PARTS];
        private int parts;
        private int free;
        private int principals;
        private int slips;
        private boolean dark;
        private int players;
        private int takings;

        void workOut(State state, int n) {
            if (state == null) {
                return;
            }
            parts = Math.min(state.parts(), MOST_PARTS);
            free = ((1 << state.actors()) - 1) & ~state.illOn(n);
            principals = state.principalsOn(n);
            slips = state.slipsOn(n);
            dark = parts == 0;
            players = 0;
            int fame = 0;
            for (int p = 0; p < parts; p++) {
                choose(state, n, p);
                fame += state.fame(taken[p]);
                dark = dark || reasons[p] == LOST;
            }
            if (dark) {
                players = 0;
            }
            takings = dark ? 0 : state.option(0) + state.option(1) * fame;
        }

        private void choose(State state, int n, int p) {
            int slip = bestSlip(state, p);
            if (slip != NONE) {
                take(p, state.slipActor(slip), BY_SLIP, slip);
            } else if (isFree(state.principal(p, n))) {
                take(p, state.principal(p, n), BY_PRINCIPAL, NONE);
            } else {
                int a = bestUnderstudyOf(state, p);
                take(p, a, a == NONE ? LOST : BY_UNDERSTUDY, NONE);
            }
        }

        /** Of the slips that tell a free actor the one of the latest hour, of several the last one. */
        private int bestSlip(State state, int p) {
            int best = NONE;
            for (int k = 0; k < MOST_SLIPS && slips >>> k != 0; k++) {
                if (holds(slips, k) && state.slipPart(k) == p && isFree(state.slipActor(k))
                        && state.slipHour(k) >= state.slipHour(best)) {
                    best = k;
                }
            }
            return best;
        }

        /**
         * Leaves out the principals of all parts, not only of the others: the part's own principal
         * is asked before its understudies, and so is not free any more.
         */
        private int bestUnderstudyOf(State state, int p) {
            for (int rank = 0; rank < state.understudies(p); rank++) {
                int a = state.understudyAt(p, rank);
                if (isFree(a) && !holds(principals, a)) {
                    return a;
                }
            }
            return NONE;
        }

        private boolean isFree(int a) {
            return a >= 0 && (free >>> a & 1) != 0;
        }

        private void take(int p, int a, int reason, int slip) {
            if (p < 0 || p >= MOST_PARTS) {
                return;
            }
            taken[p] = a;
            reasons[p] = reason;
            slipsTaken[p] = slip;
            if (a != NONE) {
                free &= ~(1 << a);
                players |= 1 << a;
            }
        }

        boolean isDark() {
            return dark;
        }

        int takings() {
            return takings;
        }

        int players() {
            return players;
        }

        int takenFor(int p) {
            return p >= 0 && p < parts && p < MOST_PARTS ? taken[p] : NONE;
        }

        int player(int p) {
            return dark ? NONE : takenFor(p);
        }

        int reason(int p) {
            return p >= 0 && p < parts && p < MOST_PARTS ? reasons[p] : LOST;
        }

        int slipOf(int p) {
            return p >= 0 && p < parts && p < MOST_PARTS ? slipsTaken[p] : NONE;
        }

        int slipsPlayed() {
            int count = 0;
            for (int p = 0; p < parts; p++) {
                if (!dark && slipOf(p) != NONE) {
                    count++;
                }
            }
            return count;
        }

        /** The players as the digits of a number, which is another one for each unlike bill. */
        int billAsNumber() {
            int number = 0;
            for (int p = 0; p < parts; p++) {
                number = number * MOST_ACTORS + player(p);
            }
            return number;
        }
    }

    /** The dark nights and the takings of all nights together. */
    private static final class Season {
        private final Evening evening = new Evening();
        private int dark;
        private int takings;

        void tally(State state) {
            dark = 0;
            takings = 0;
            for (int n = 0; n < NIGHTS; n++) {
                evening.workOut(state, n);
                dark += evening.isDark() ? 1 : 0;
                takings += evening.takings();
            }
        }

        int dark() {
            return dark;
        }

        int takings() {
            return takings;
        }

        boolean isBetter(int otherDark, int otherTakings) {
            return dark < otherDark || dark == otherDark && takings > otherTakings;
        }
    }

    /** The states that are remembered: a ring, in which the newest takes the place of the oldest. */
    private static final class History {
        private final int[] rows = new int[MOST_REMEMBERED * State.SIZE];
        private int oldest;
        private int count;

        int size() {
            return count;
        }

        void forget() {
            oldest = 0;
            count = 0;
        }

        void remember(State state) {
            if (state == null) {
                return;
            }
            state.storeIn(rows, (oldest + count) % MOST_REMEMBERED);
            if (count < MOST_REMEMBERED) {
                count++;
            } else {
                oldest = (oldest + 1) % MOST_REMEMBERED;
            }
        }

        void takeBack(State state) {
            if (state == null || count == 0) {
                return;
            }
            count--;
            state.fetchFrom(rows, (oldest + count) % MOST_REMEMBERED);
        }
    }

    /** The text buffer, and the rules of a run as a text. */
    private static final class RunText {
        private static final char BEGIN = 'B';
        private static final char HOUR_END = 'h';

        private final int[] signs = new int[MOST_SIGNS];
        private int size;

        int size() {
            return size;
        }

        boolean isFull() {
            return size >= MOST_SIGNS;
        }

        void add(int c) {
            if (size >= 0 && size < MOST_SIGNS) {
                signs[size] = c;
                size++;
            }
        }

        void empty() {
            size = 0;
        }

        int signAt(int i) {
            return i >= 0 && i < size && i < MOST_SIGNS ? signs[i] : NONE;
        }

        int digit(int i) {
            return signAt(i) - '0';
        }

        int pair(int i) {
            return 10 * digit(i) + digit(i + 1);
        }

        int firstFault() {
            if (signAt(0) != BEGIN) {
                return 0;
            }
            for (int i = 1; i < size; i += 1 + digitsBehind(i)) {
                if (!isCommand(signAt(i))) {
                    return i;
                }
                int fault = faultBehind(i);
                if (fault != NONE) {
                    return fault;
                }
            }
            return NONE;
        }

        int digitsBehind(int i) {
            return highestDigits(signAt(i)).length();
        }

        private static boolean isCommand(int sign) {
            return sign == 'p' || !highestDigits(sign).isEmpty();
        }

        /** What the digits behind a command are at most; only the end of an hour hangs on another. */
        private static String highestDigits(int command) {
            switch (command) {
                case 'a':
                    return "9";
                case 'c':
                    return "5919";
                case 'u':
                    return "59";
                case 'i':
                    return "919";
                case 's':
                    return "19592h";
                default:
                    return "";
            }
        }

        private int faultBehind(int i) {
            String highest = highestDigits(signAt(i));
            for (int k = 0; k < highest.length(); k++) {
                int at = i + 1 + k;
                if (at >= size) {
                    return size;
                }
                if (!isDigitUpTo(at, highest.charAt(k))) {
                    return at;
                }
            }
            return NONE;
        }

        private boolean isDigitUpTo(int at, char highest) {
            int limit = highest;
            if (highest == HOUR_END) {
                limit = signAt(at - 1) == '2' ? '3' : '9';
            }
            return signAt(at) >= '0' && signAt(at) <= limit;
        }
    }
}
