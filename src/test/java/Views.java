import java.util.ArrayList;
import java.util.List;

/** Tells all that can be asked of an archive, and all that can come to light by later calls. */
final class Views {
    private static final int DEEPEST_UNDO = 15;

    private Views() {
    }

    /** The state, what is remembered, the save slots and the text. */
    static String of(Recorded x) {
        return state(x) + behind(x) + text(x);
    }

    /** The state alone: everything that can be asked without changing anything but the text. */
    static String state(Recorded x) {
        Questions all = new Questions(x, List.of());
        int parts = all.ask(a -> a.about(0));
        int actors = all.ask(a -> a.about(1));
        int slips = all.ask(a -> a.about(2));
        for (int what = 3; what <= 6; what++) {
            int asked = what;
            all.ask(a -> a.about(asked));
        }
        all.ask(a -> a.setting(0));
        all.ask(a -> a.setting(1));
        for (int n = 0; n < 20; n++) {
            askNight(all, n, parts);
        }
        for (int i = 0; i < 6 * actors; i++) {
            int asked = i;
            all.ask(a -> a.actor(asked / 6, asked % 6));
        }
        for (int i = 0; i < 5 * parts; i++) {
            int asked = i;
            all.ask(a -> a.ranked(asked / 5, asked % 5));
        }
        for (int i = 0; i < 5 * slips; i++) {
            int asked = i;
            all.ask(a -> a.found(asked / 5, asked % 5));
        }
        return all.told();
    }

    private static void askNight(Questions all, int n, int parts) {
        all.line("night " + n);
        for (int what = 0; what <= 4; what++) {
            int asked = what;
            all.ask(a -> a.night(n, asked));
        }
        for (int p = 0; p < parts; p++) {
            int part = p;
            all.ask(a -> a.played(n, part));
            for (int what = 0; what <= 3; what++) {
                int asked = what;
                all.ask(a -> a.bill(n, part, asked));
            }
        }
    }

    /** What undo, as often as it goes, and the save slots bring back. */
    static String behind(Recorded x) {
        StringBuilder told = new StringBuilder();
        List<Recorded.Call> before = new ArrayList<>();
        for (int k = 0; k < DEEPEST_UNDO; k++) {
            before.add(BillArchive::undo);
            told.append(summary("undo " + k, x, before));
        }
        told.append(summary("slot 0", x, List.of(a -> a.restore(0))));
        told.append(summary("slot 1", x, List.of(a -> a.restore(1))));
        return told.toString();
    }

    private static String text(Recorded x) {
        Questions all = new Questions(x, List.of());
        all.line("text");
        all.ask(BillArchive::errorPosition);
        return all.told() + summary("length", x, List.of(BillArchive::clearText))
            + summary("load", x, List.of(BillArchive::load));
    }

    private static String summary(String label, Recorded x, List<Recorded.Call> before) {
        Questions all = new Questions(x, before);
        all.line(label);
        for (int what = 0; what <= 6; what++) {
            int asked = what;
            all.ask(a -> a.about(asked));
        }
        all.ask(a -> a.setting(0));
        all.ask(a -> a.setting(1));
        return all.told();
    }

    /** Asks twins, as many as are needed to stay within 512 calls on each. */
    private static final class Questions {
        private final Recorded original;
        private final List<Recorded.Call> before;
        private final StringBuilder told = new StringBuilder();
        private Recorded twin;

        Questions(Recorded original, List<Recorded.Call> before) {
            this.original = original;
            this.before = before;
        }

        int ask(Recorded.Call question) {
            if (twin == null || twin.isUsedUp()) {
                boolean isFirst = twin == null;
                twin = original.twin();
                for (Recorded.Call call : before) {
                    String outcome = twin.outcome(call);
                    told.append(isFirst ? outcome + " " : "");
                }
            }
            int answer = twin.ask(question);
            told.append(answer).append(' ');
            return answer;
        }

        void line(String label) {
            told.append('\n').append(label).append(": ");
        }

        String told() {
            return told.toString();
        }
    }

    static void type(Recorded x, String text) {
        x.clearText();
        for (int i = 0; i < text.length(); i++) {
            x.append(text.charAt(i));
        }
    }

    /** An archive that holds what the text says. */
    static Recorded loaded(String text) {
        Recorded x = new Recorded();
        type(x, text);
        x.load();
        x.clearText();
        return x;
    }
}
