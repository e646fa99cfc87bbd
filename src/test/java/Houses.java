/** Archives of the sizes that the tests of the edges begin with. */
final class Houses {
    private Houses() {
    }

    /** So many parts and actors of fame 0, 1, .. ; nobody is a principal. */
    static Recorded sized(int parts, int actors) {
        Recorded x = new Recorded();
        for (int a = 0; a < actors; a++) {
            x.addActor(a);
        }
        for (int p = 0; p < parts; p++) {
            x.addPart();
        }
        return x;
    }

    /** As many of each as there can be, each with its own number as principal on all nights. */
    static Recorded played(int parts, int actors) {
        Recorded x = sized(parts, actors);
        for (int p = 0; p < parts; p++) {
            x.cast(p, p, 0);
        }
        return x;
    }

    /** Two parts with principals 0 and 1, and the actors 2 and 3; of fame 1 to 4. */
    static Recorded small() {
        return Views.loaded("Ba1a2a3a4ppc0000c1100");
    }

    /** The most of everything: 6 parts, 10 actors, 4 understudies of each part, a slip for each night. */
    static Recorded full() {
        Recorded x = played(6, 10);
        for (int p = 0; p < 6; p++) {
            for (int a = 6; a < 10; a++) {
                x.understudy(p, a);
            }
        }
        addSlips(x, 20);
        return x;
    }

    /** Slips for the first so many nights, each for another part, of the actors 6 to 9. */
    static void addSlips(Recorded x, int slips) {
        for (int k = 0; k < slips; k++) {
            x.slip(k, k % x.about(0), 6 + k % 4, k);
        }
    }
}
