import java.util.Random;

/** Promises 1 to 33: the same runs of 512 calls, of fixed seeds, on BillArchive and PlainArchive. */
public final class ModelTest {
    private static final Checks CHECKS = new Checks("ModelTest");
    private static final int RUNS = 400;
    private static final int CALLS = 512;

    private final BillArchive real = new BillArchive();
    private final PlainArchive plain = new PlainArchive();
    private final Random random;
    private int made;
    private String call;
    private Checks.Call realCall;
    private Checks.Call plainCall;

    private ModelTest(long seed) {
        random = new Random(seed);
    }

    public static void main(String[] args) {
        int[] answers = new int[2];
        for (int run = 0; run < RUNS; run++) {
            new ModelTest(run).play(run, answers);
        }
        System.out.println("ModelTest: " + answers[0] + " answers, " + answers[1] + " exceptions");
        CHECKS.end();
    }

    private void play(int run, int[] answers) {
        int kind = run % 4;
        for (int i = 0; made < CALLS; i++) {
            if (i < 25 && kind != 3) {
                build(i, kind);
            } else {
                choose(random.nextInt(kind == 2 ? 32 : 34));
            }
            String want = Checks.outcome(plainCall);
            String got = Checks.outcome(realCall);
            made++;
            CHECKS.same("run " + run + " call " + made + " " + call, want, got);
            answers[want.endsWith("Exception") ? 1 : 0]++;
        }
    }

    /** The first calls make a house that is rather full, so that few nights are dark. */
    private void build(int i, int kind) {
        int size = 2 + 2 * kind;
        if (i < size + 4) {
            actors(random.nextInt(10));
        } else if (i < 2 * size + 4) {
            parts();
        } else {
            int p = random.nextInt(size);
            if (random.nextBoolean()) {
                casts(p, p, random.nextInt(3));
            } else {
                understudies(p, random.nextInt(size + 4));
            }
        }
    }

    /** Mostly within the range, now and then a little or far outside it. */
    private int near(int size) {
        int dice = random.nextInt(60);
        if (dice == 0) {
            return random.nextInt();
        }
        if (dice == 1) {
            return -1;
        }
        if (dice == 2) {
            return size;
        }
        return random.nextInt(Math.max(size, 1));
    }

    private int part() {
        return near(plain.about(0));
    }

    private int actor() {
        return near(plain.about(1));
    }

    private int night() {
        return near(20);
    }

    private void actors(int fame) {
        is("addActor(" + fame + ")", () -> real.addActor(fame), () -> plain.addActor(fame));
    }

    private void parts() {
        is("addPart()", real::addPart, plain::addPart);
    }

    private void casts(int p, int a, int n) {
        is("cast(" + p + ", " + a + ", " + n + ")", () -> real.cast(p, a, n), () -> plain.cast(p, a, n));
    }

    private void understudies(int p, int a) {
        is("understudy(" + p + ", " + a + ")", () -> real.understudy(p, a), () -> plain.understudy(p, a));
    }

    private void is(String name, Checks.Call realOne, Checks.Call plainOne) {
        call = name;
        realCall = realOne;
        plainCall = plainOne;
    }

    private void choose(int kind) {
        int p = part();
        int a = actor();
        int b = actor();
        int n = night();
        int k = near(5);
        int what = near(7);
        int few = near(5);
        switch (kind) {
            case 0 -> actors(near(10));
            case 1 -> parts();
            case 2, 3 -> casts(p, random.nextInt(8) == 0 ? -1 : a, n);
            case 4 -> understudies(p, a);
            case 5 -> is("release " + p + " " + a, () -> real.release(p, a), () -> plain.release(p, a));
            case 6, 7 -> illness(a, n);
            case 8, 9, 10 -> slips(n, p, a, near(24));
            case 11 -> loss(near(plain.about(2)));
            case 12 -> settings(near(2), near(random.nextBoolean() ? 10 : 100));
            case 13, 14 -> is("undo", real::undo, plain::undo);
            case 15 -> is("about " + what, () -> real.about(what), () -> plain.about(what));
            case 16 -> is("played " + n + " " + p, () -> real.played(n, p), () -> plain.played(n, p));
            case 17 -> is("bill " + n + " " + p + " " + few, () -> real.bill(n, p, few), () -> plain.bill(n, p, few));
            case 18 -> is("night " + n + " " + few, () -> real.night(n, few), () -> plain.night(n, few));
            case 19 -> is("actor " + a + " " + what, () -> real.actor(a, what), () -> plain.actor(a, what));
            case 20 -> is("ranked " + p + " " + k, () -> real.ranked(p, k), () -> plain.ranked(p, k));
            case 21 -> foundSlip(near(plain.about(2)), few);
            case 22 -> is("setting " + what, () -> real.setting(what), () -> plain.setting(what));
            case 23 -> is("find " + p + " " + a + " " + k, () -> real.find(p, a, k), () -> plain.find(p, a, k));
            case 24 -> is("together " + a + " " + b, () -> real.together(a, b), () -> plain.together(a, b));
            case 25 -> is("longest " + p + " " + a, () -> real.longest(p, a), () -> plain.longest(p, a));
            case 26 -> illnessWouldBe(a, n, near(2));
            case 27 -> is("bestUnderstudy " + p, () -> real.bestUnderstudy(p), () -> plain.bestUnderstudy(p));
            case 28 -> is("needed", real::needed, plain::needed);
            case 29, 30 -> script(near(3) + 1);
            case 31 -> simulation(random.nextLong(), near(60) + 1);
            case 32 -> slots(near(2));
            default -> textCall();
        }
    }

    private void illness(int a, int n) {
        boolean is = random.nextInt(3) > 0;
        is("ill " + a + " " + n + " " + is, () -> real.ill(a, n, is), () -> plain.ill(a, n, is));
    }

    private void slips(int n, int p, int a, int hour) {
        int night = random.nextBoolean() ? n : random.nextInt(3);
        is("slip " + night + " " + p + " " + a + " " + hour, () -> real.slip(night, p, a, hour),
            () -> plain.slip(night, p, a, hour));
    }

    private void loss(int k) {
        is("lose " + k, () -> real.lose(k), () -> plain.lose(k));
    }

    private void settings(int what, int v) {
        is("set " + what + " " + v, () -> real.set(what, v), () -> plain.set(what, v));
    }

    private void foundSlip(int k, int what) {
        is("found " + k + " " + what, () -> real.found(k, what), () -> plain.found(k, what));
    }

    private void illnessWouldBe(int a, int n, int what) {
        is("ifIll " + a + " " + n + " " + what, () -> real.ifIll(a, n, what), () -> plain.ifIll(a, n, what));
    }

    private void script(int n) {
        long script = 0;
        for (int i = 0; i < Math.min(3, Math.max(0, n)); i++) {
            script = script * 100000 + group();
        }
        if (random.nextInt(30) == 0) {
            script = random.nextLong();
        }
        long value = script;
        is("runScript " + n + " " + value, () -> real.runScript(n, value), () -> plain.runScript(n, value));
    }

    /** Groups that mostly can succeed: with plain digits nearly all would fail. */
    private int group() {
        int p = random.nextInt(Math.max(1, plain.about(0)));
        int a = random.nextInt(Math.max(1, plain.about(1)));
        int n = random.nextInt(20);
        return switch (random.nextInt(10)) {
            case 0 -> 10000 + 1000 * p + 100 * a + n;
            case 1 -> 20000 + 1000 * p + 100 * a;
            case 2 -> 30000 + 1000 * p + 100 * a;
            case 3 -> 40000 + 1000 * a + 10 * n + random.nextInt(2);
            case 4 -> 50000 + 100 * n + 10 * p + a;
            case 5 -> 60000 + 100 * random.nextInt(1 + plain.about(2));
            case 6 -> 70000 + 100 * n + 10 * p + Math.max(0, plain.about(0) > 0 ? plain.played(n, p) : a);
            case 7 -> 80000 + 100 * n + random.nextInt(2);
            case 8 -> 90000 + random.nextInt(25);
            default -> random.nextInt(100000);
        };
    }

    private void simulation(long seed, int m) {
        is("simulate " + seed + " " + m, () -> real.simulate(seed, m), () -> plain.simulate(seed, m));
    }

    private void slots(int slot) {
        if (random.nextBoolean()) {
            is("save " + slot, () -> real.save(slot), () -> plain.save(slot));
        } else {
            is("restore " + slot, () -> real.restore(slot), () -> plain.restore(slot));
        }
    }

    private void textCall() {
        switch (random.nextInt(6)) {
            case 0 -> is("clearText", real::clearText, plain::clearText);
            case 1 -> is("errorPosition", real::errorPosition, plain::errorPosition);
            case 2 -> is("load", real::load, plain::load);
            default -> typing(text());
        }
    }

    /** Types a whole text, which is right up to some place, in both, if there are calls left for it. */
    private void typing(String text) {
        is("clearText", real::clearText, plain::clearText);
        if (made + text.length() + 2 > CALLS) {
            return;
        }
        CHECKS.same(call, Checks.outcome(plainCall), Checks.outcome(realCall));
        for (int i = 0; i < text.length(); i++) {
            char c = text.charAt(i);
            CHECKS.same("append " + (int) c, Checks.outcome(() -> plain.append(c)),
                Checks.outcome(() -> real.append(c)));
        }
        made += 1 + text.length();
        if (random.nextInt(4) == 0) {
            is("load " + text, real::load, plain::load);
        } else {
            is("errorPosition " + text, real::errorPosition, plain::errorPosition);
        }
    }

    private String text() {
        StringBuilder text = new StringBuilder("Ba5a3pp");
        int commands = random.nextInt(30);
        for (int i = 0; i < commands; i++) {
            int night = random.nextInt(20);
            String nn = (night < 10 ? "0" : "") + night;
            int hour = random.nextInt(24);
            String hh = (hour < 10 ? "0" : "") + hour;
            int p = random.nextInt(6);
            int a = random.nextInt(10);
            text.append(switch (random.nextInt(6)) {
                case 0 -> "a" + a;
                case 1 -> "p";
                case 2 -> "c" + p + a + nn;
                case 3 -> "u" + p + a;
                case 4 -> "i" + a + nn;
                default -> "s" + nn + p + a + hh;
            });
        }
        if (random.nextInt(3) == 0) {
            text.setLength(random.nextInt(text.length() + 1));
        }
        if (text.length() > 0 && random.nextInt(3) == 0) {
            text.setCharAt(random.nextInt(text.length()), "Bapcuis0123456789 x".charAt(random.nextInt(19)));
        }
        return text.toString();
    }
}
