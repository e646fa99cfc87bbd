import java.util.ArrayList;
import java.util.List;

/**
 * An archive that keeps the calls made on it, so that twins of it can be made: what a test asks a twin
 * costs the archive no call. The document promises nothing behind an object's 512th call, so a test that
 * goes beyond it ends at once.
 */
final class Recorded {
    /** One call of the face, to be made on any archive. */
    interface Call {
        int on(BillArchive archive);
    }

    static final int MOST_CALLS = 512;

    private final BillArchive archive = new BillArchive();
    private final List<Call> calls = new ArrayList<>();
    private final List<String> outcomes = new ArrayList<>();

    /** Makes one call, and keeps it and its outcome. */
    int ask(Call call) {
        if (isUsedUp()) {
            throw new AssertionError("a test makes more than 512 calls on one object");
        }
        calls.add(call);
        try {
            int answer = call.on(archive);
            outcomes.add(Integer.toString(answer));
            return answer;
        } catch (RuntimeException e) {
            outcomes.add(e.getClass().getSimpleName());
            throw e;
        }
    }

    /** The answer of a call as a text, or the name of what it throws. */
    String outcome(Call call) {
        return Checks.outcome(() -> ask(call));
    }

    boolean isUsedUp() {
        return calls.size() >= MOST_CALLS;
    }

    int callsMade() {
        return calls.size();
    }

    /** A new object with the same calls behind it; they must have the same outcomes again. */
    Recorded twin() {
        Recorded twin = new Recorded();
        for (int i = 0; i < calls.size(); i++) {
            String outcome = twin.outcome(calls.get(i));
            if (!outcome.equals(outcomes.get(i))) {
                throw new AssertionError("call " + i + " has another outcome on a twin: " + outcome
                    + " for " + outcomes.get(i));
            }
        }
        return twin;
    }

    // ---- the face

    int append(int c) {
        return ask(x -> x.append(c));
    }

    int clearText() {
        return ask(BillArchive::clearText);
    }

    int errorPosition() {
        return ask(BillArchive::errorPosition);
    }

    int load() {
        return ask(BillArchive::load);
    }

    int about(int what) {
        return ask(x -> x.about(what));
    }

    int played(int n, int p) {
        return ask(x -> x.played(n, p));
    }

    int bill(int n, int p, int what) {
        return ask(x -> x.bill(n, p, what));
    }

    int night(int n, int what) {
        return ask(x -> x.night(n, what));
    }

    int actor(int a, int what) {
        return ask(x -> x.actor(a, what));
    }

    int ranked(int p, int k) {
        return ask(x -> x.ranked(p, k));
    }

    int found(int k, int what) {
        return ask(x -> x.found(k, what));
    }

    int setting(int what) {
        return ask(x -> x.setting(what));
    }

    int addActor(int fame) {
        return ask(x -> x.addActor(fame));
    }

    int addPart() {
        return ask(BillArchive::addPart);
    }

    int cast(int p, int a, int n) {
        return ask(x -> x.cast(p, a, n));
    }

    int understudy(int p, int a) {
        return ask(x -> x.understudy(p, a));
    }

    int release(int p, int a) {
        return ask(x -> x.release(p, a));
    }

    int ill(int a, int n, boolean is) {
        return ask(x -> x.ill(a, n, is));
    }

    int slip(int n, int p, int a, int hour) {
        return ask(x -> x.slip(n, p, a, hour));
    }

    int lose(int k) {
        return ask(x -> x.lose(k));
    }

    int set(int what, int v) {
        return ask(x -> x.set(what, v));
    }

    int undo() {
        return ask(BillArchive::undo);
    }

    int find(int p, int a, int k) {
        return ask(x -> x.find(p, a, k));
    }

    int together(int a, int b) {
        return ask(x -> x.together(a, b));
    }

    int longest(int p, int a) {
        return ask(x -> x.longest(p, a));
    }

    int ifIll(int a, int n, int what) {
        return ask(x -> x.ifIll(a, n, what));
    }

    int bestUnderstudy(int p) {
        return ask(x -> x.bestUnderstudy(p));
    }

    int needed() {
        return ask(BillArchive::needed);
    }

    int runScript(int n, long script) {
        return ask(x -> x.runScript(n, script));
    }

    int simulate(long seed, int m) {
        return ask(x -> x.simulate(seed, m));
    }

    int save(int slot) {
        return ask(x -> x.save(slot));
    }

    int restore(int slot) {
        return ask(x -> x.restore(slot));
    }
}
