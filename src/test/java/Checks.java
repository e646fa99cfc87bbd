/** Counts what a test finds wrong, and ends the test with exit code 1 if there was anything. */
final class Checks {
    /** A call whose answer, or whose exception, is looked at. */
    interface Call {
        long answer();
    }

    private final String name;
    private int made;
    private int wrong;

    Checks(String name) {
        this.name = name;
    }

    void same(String label, long want, long got) {
        made++;
        if (want != got) {
            report(label + ": answered " + got + ", due is " + want);
        }
    }

    void same(String label, String want, String got) {
        made++;
        if (!want.equals(got)) {
            report(label + ": answered " + got + ", due is " + want);
        }
    }

    void isTrue(String label, boolean holds) {
        made++;
        if (!holds) {
            report(label);
        }
    }

    /** The call must throw just this exception, and change nothing that can be asked for. */
    void refuses(String label, BillArchive archive, Class<? extends RuntimeException> want, Call call) {
        String before = Views.of(archive);
        String thrown = outcome(call);
        same(label, want.getSimpleName(), thrown);
        same(label + " changes nothing", before, Views.of(archive));
    }

    /** The answer of a call as a text, or the name of what it throws. */
    static String outcome(Call call) {
        try {
            return Long.toString(call.answer());
        } catch (RuntimeException e) {
            return e.getClass().getSimpleName();
        }
    }

    private void report(String text) {
        wrong++;
        if (wrong <= 30) {
            System.out.println(name + ": " + text);
        }
    }

    void end() {
        System.out.println(name + ": " + made + " checks, " + wrong + " wrong");
        if (wrong > 0) {
            System.exit(1);
        }
    }
}
