/** Makes archives for tests, and tells all that can be asked of one. */
final class Views {
    private Views() {
    }

    /** Everything that can be asked without changing anything, as a text. */
    static String of(BillArchive x) {
        StringBuilder all = new StringBuilder();
        for (int what = 0; what <= 6; what++) {
            all.append(x.about(what)).append(' ');
        }
        all.append(x.setting(0)).append(' ').append(x.setting(1)).append(' ').append(x.errorPosition());
        for (int n = 0; n < 20; n++) {
            addNight(all, x, n);
        }
        for (int a = 0; a < x.about(1); a++) {
            all.append("\nactor");
            for (int what = 0; what <= 5; what++) {
                all.append(' ').append(x.actor(a, what));
            }
        }
        for (int p = 0; p < x.about(0); p++) {
            all.append("\npart");
            for (int k = 0; k <= 4; k++) {
                all.append(' ').append(x.ranked(p, k));
            }
        }
        for (int k = 0; k < x.about(2); k++) {
            all.append("\nslip");
            for (int what = 0; what <= 4; what++) {
                all.append(' ').append(x.found(k, what));
            }
        }
        return all.toString();
    }

    private static void addNight(StringBuilder all, BillArchive x, int n) {
        all.append("\nnight");
        for (int what = 0; what <= 4; what++) {
            all.append(' ').append(x.night(n, what));
        }
        for (int p = 0; p < x.about(0); p++) {
            all.append(" / ").append(x.played(n, p));
            for (int what = 0; what <= 3; what++) {
                all.append(' ').append(x.bill(n, p, what));
            }
        }
    }

    static void type(BillArchive x, String text) {
        x.clearText();
        for (int i = 0; i < text.length(); i++) {
            x.append(text.charAt(i));
        }
    }

    /** An archive that holds what the text says. */
    static BillArchive loaded(String text) {
        BillArchive x = new BillArchive();
        type(x, text);
        x.load();
        x.clearText();
        return x;
    }
}
