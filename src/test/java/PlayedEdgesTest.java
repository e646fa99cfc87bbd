/** The edges of who played, of the takings, and of promises 6 to 13: what there is. */
public final class PlayedEdgesTest {
    private static final Checks CHECKS = new Checks("PlayedEdgesTest");
    private static final int NONE = BillArchive.NONE;
    private static final int SLIP = 1;
    private static final int PRINCIPAL = 2;
    private static final int UNDERSTUDY = 3;

    private PlayedEdgesTest() {
    }

    public static void main(String[] args) {
        slipsByHour();
        slipsOfOneHour();
        firstOfTheSlips();
        lowestPartFirst();
        principalsElsewhere();
        lost();
        dark();
        takings();
        about();
        unlike();
        slipsThatPlay();
        played();
        bill();
        night();
        partsOfOthers();
        actor();
        ranked();
        found();
        setting();
        CHECKS.end();
    }

    private static void taken(String label, Recorded x, int n, int p, int actor, int reason) {
        CHECKS.same(label, actor, x.bill(n, p, 1));
        CHECKS.same(label + ": the reason", reason, x.bill(n, p, 2));
    }

    private static void slipsByHour() {
        CHECKS.sentence("the actors of its slips for this night, the latest hour first, of several slips with one "
            + "hour the one with the greatest number first; then its principal of this night;");
        for (int night : new int[] {0, 19}) {
            for (int part : new int[] {0, 5}) {
                Recorded x = Houses.played(6, 10);
                x.slip(night, part, 6, 0);
                taken("the first hour comes before the principal", x, night, part, 6, SLIP);
                x.slip(night, part, 7, 1);
                taken("an hour later", x, night, part, 7, SLIP);
                x.slip(night, part, 8, 0);
                taken("the hour before", x, night, part, 7, SLIP);
                x.slip(night, part, 8, 23);
                x.slip(night, part, 9, 22);
                taken("the last hour", x, night, part, 8, SLIP);
                x.ill(8, night, true);
                taken("if ill, the hour before", x, night, part, 9, SLIP);
                x.ill(9, night, true);
                taken("if ill, the hour 1", x, night, part, 7, SLIP);
                x.ill(7, night, true);
                taken("if ill, the hour 0", x, night, part, 6, SLIP);
                x.ill(6, night, true);
                taken("if all are ill, the principal", x, night, part, part, PRINCIPAL);
                taken("of this part alone", x, night, 5 - part, 5 - part, PRINCIPAL);
                taken("on this night alone", x, 19 - night, part, part, PRINCIPAL);
            }
        }
    }

    private static void slipsOfOneHour() {
        CHECKS.sentence("of several slips with one hour the one with the greatest number first");
        for (int hour : new int[] {0, 23}) {
            Recorded x = Houses.played(1, 10);
            for (int k = 0; k < 20; k++) {
                x.slip(3, 0, 1 + k % 9, hour);
                taken("slip " + k, x, 3, 0, 1 + k % 9, SLIP);
            }
            CHECKS.same("played by the last one", 1, x.found(19, 4));
            for (int k = 19; k > 0; k--) {
                x.lose(k);
                taken("without slip " + k, x, 3, 0, 1 + (k - 1) % 9, SLIP);
            }
            x.slip(3, 0, 5, hour);
            x.lose(0);
            taken("the numbers have become 1 less", x, 3, 0, 5, SLIP);
            CHECKS.same("and it is slip 0", 1, x.found(0, 4));
        }
    }

    private static void firstOfTheSlips() {
        CHECKS.sentence("is taken (by the first slip of those that tell this one)");
        Recorded x = Houses.played(1, 2);
        x.slip(0, 0, 1, 22);
        x.slip(0, 0, 1, 23);
        x.slip(0, 0, 1, 23);
        x.slip(0, 0, 1, 22);
        x.slip(0, 0, 1, 0);
        for (int k = 0; k < 5; k++) {
            CHECKS.same("slip " + k, k == 2 ? 1 : 0, x.found(k, 4));
        }
        CHECKS.same("one slip", 1, x.about(6));
        x.slip(0, 0, 0, 23);
        CHECKS.same("another actor's is behind them", 1, x.found(5, 4));
        x.ill(0, 0, true);
        CHECKS.same("and gives way if ill", 0, x.found(5, 4));
        CHECKS.same("to the first of the others", 1, x.found(2, 4));
    }

    private static void lowestPartFirst() {
        CHECKS.sentence("For each night, its parts are gone through from the lowest on.");
        Recorded x = Houses.sized(6, 10);
        for (int p = 0; p < 6; p++) {
            x.cast(p, 4, 0);
            x.understudy(p, 5);
            x.understudy(p, 6);
        }
        taken("part 0", x, 0, 0, 4, PRINCIPAL);
        taken("part 1", x, 0, 1, 5, UNDERSTUDY);
        taken("part 2", x, 0, 2, 6, UNDERSTUDY);
        for (int p = 3; p < 6; p++) {
            taken("nobody is left", x, 19, p, NONE, 0);
        }
        x.slip(0, 5, 4, 23);
        taken("a slip of a higher part comes too late", x, 0, 0, 4, PRINCIPAL);
        taken("and is in vain", x, 0, 5, NONE, 0);
        x.slip(0, 0, 6, 0);
        taken("part 0 by its slip", x, 0, 0, 6, SLIP);
        taken("then part 1 has its principal", x, 0, 1, 4, PRINCIPAL);
        taken("and part 2 its first understudy", x, 0, 2, 5, UNDERSTUDY);
        taken("and part 3 nobody", x, 0, 3, NONE, 0);
        x.slip(0, 2, 6, 23);
        taken("a slip for one who has been taken is passed over", x, 0, 2, 5, UNDERSTUDY);
    }

    private static void principalsElsewhere() {
        CHECKS.sentence("then its understudies, by their ranks, but those left out who are on this night the "
            + "principal of another part, and are not ill.");
        for (int part : new int[] {0, 5}) {
            Recorded x = Houses.sized(6, 10);
            int other = 5 - part;
            x.understudy(part, 9);
            x.understudy(part, 8);
            x.understudy(part, 7);
            x.understudy(part, 6);
            taken("no principal: rank 0", x, 7, part, 9, UNDERSTUDY);
            x.cast(other, 9, 7);
            taken("on this night the principal of another part", x, 7, part, 8, UNDERSTUDY);
            taken("not on the night before", x, 6, part, 9, UNDERSTUDY);
            taken("but on the last one", x, 19, part, 8, UNDERSTUDY);
            x.cast(other, 8, 10);
            taken("no longer from the night 10 on", x, 10, part, 9, UNDERSTUDY);
            taken("still on the night 9", x, 9, part, 8, UNDERSTUDY);
            x.ill(8, 7, true);
            taken("an ill one of rank 1", x, 7, part, 7, UNDERSTUDY);
            x.ill(7, 7, true);
            taken("rank 3", x, 7, part, 6, UNDERSTUDY);
            x.ill(9, 7, true);
            taken("one who is ill is not taken either", x, 7, part, 6, UNDERSTUDY);
            x.ill(6, 7, true);
            taken("all are ill", x, 7, part, NONE, 0);
            x.ill(9, 7, false);
            taken("left out again", x, 7, part, NONE, 0);
            x.cast(part, 9, 7);
            taken("but asked as the principal", x, 7, part, part == 0 ? 9 : NONE, part == 0 ? PRINCIPAL : 0);
            x.cast(part, 0, 7);
            taken("the principal of this part is none of the understudies", x, 8, part, 0, PRINCIPAL);
            x.ill(0, 8, true);
            taken("ill, then rank 0 is left out on night 8", x, 8, part, 8, UNDERSTUDY);
        }
        Recorded many = Houses.played(6, 10);
        many.cast(0, NONE, 0);
        many.understudy(0, 1);
        many.understudy(0, 3);
        many.understudy(0, 5);
        many.understudy(0, 9);
        taken("all principals of the other parts are left out", many, 0, 0, 9, UNDERSTUDY);
        many.cast(5, 3, 10);
        taken("also one of two other parts", many, 10, 0, 5, UNDERSTUDY);
        many.cast(4, 3, 19);
        many.ill(1, 19, true);
        many.ill(5, 19, true);
        taken("also one of three other parts", many, 19, 0, 9, UNDERSTUDY);
        Recorded y = Houses.played(2, 4);
        y.understudy(0, 0);
        y.understudy(0, 2);
        y.ill(0, 0, true);
        taken("the part's own principal, ill, as its understudy", y, 0, 0, 2, UNDERSTUDY);
        y.cast(1, NONE, 0);
        y.understudy(1, 0);
        taken("who is left out elsewhere", y, 1, 1, NONE, 0);
        y.slip(1, 0, 3, 5);
        taken("also if a slip gave the part away", y, 1, 1, NONE, 0);
        y.cast(0, NONE, 0);
        taken("but not without a part", y, 1, 1, 0, UNDERSTUDY);
    }

    private static void lost() {
        CHECKS.sentence("If there is none, the part is lost (the reason 0).");
        Recorded x = Houses.sized(1, 3);
        taken("nobody to be asked", x, 0, 0, NONE, 0);
        x.slip(0, 0, 0, 4);
        x.cast(0, 1, 0);
        x.understudy(0, 2);
        taken("all are well", x, 0, 0, 0, SLIP);
        x.ill(0, 0, true);
        taken("the slip's is ill", x, 0, 0, 1, PRINCIPAL);
        x.ill(1, 0, true);
        taken("the principal too", x, 0, 0, 2, UNDERSTUDY);
        x.ill(2, 0, true);
        taken("all are ill", x, 0, 0, NONE, 0);
        taken("not on the next night", x, 1, 0, 1, PRINCIPAL);
        Recorded y = Houses.sized(1, 0);
        taken("no actors", y, 19, 0, NONE, 0);
    }

    private static void dark() {
        CHECKS.sentence("If a part of a night is lost, or there are no parts, the night is dark: nobody plays. "
            + "Otherwise each part is played by the one who was taken for it.");
        Recorded none = Houses.sized(0, 10);
        CHECKS.same("no parts", 20, none.about(3));
        CHECKS.same("no parts", 1, none.night(0, 0));
        CHECKS.same("nobody plays", 0, none.night(19, 3));
        for (int lost = 0; lost < 6; lost++) {
            Recorded x = Houses.played(6, 6);
            x.ill(lost, 19, true);
            CHECKS.same("one part is lost", 1, x.night(19, 0));
            CHECKS.same("the night before is not dark", 0, x.night(18, 0));
            CHECKS.same("one dark night", 1, x.about(3));
            for (int p = 0; p < 6; p++) {
                CHECKS.same("nobody plays", NONE, x.played(19, p));
                CHECKS.same("taken all the same", p == lost ? NONE : p, x.bill(19, p, 1));
                CHECKS.same("the night before", p, x.played(18, p));
            }
        }
    }

    private static void takings() {
        CHECKS.sentence("The takings of a night are setting 0, and setting 1 for each point of fame of all who play; "
            + "those of a dark night are 0.");
        Recorded x = new Recorded();
        for (int a = 0; a < 7; a++) {
            x.addActor(a < 6 ? 9 : 0);
        }
        for (int p = 0; p < 6; p++) {
            x.addPart();
            x.cast(p, p, 0);
        }
        x.set(0, 99);
        x.set(1, 9);
        CHECKS.same("the most of a night", 99 + 9 * 54, x.night(0, 1));
        CHECKS.same("the most of all nights", 20 * (99 + 9 * 54), x.about(4));
        x.ill(5, 0, true);
        CHECKS.same("of a dark night", 0, x.night(0, 1));
        CHECKS.same("of all others", 19 * (99 + 9 * 54), x.about(4));
        x.slip(0, 5, 6, 0);
        CHECKS.same("one without fame plays", 99 + 9 * 45, x.night(0, 1));
        x.set(1, 0);
        CHECKS.same("without fame", 99, x.night(0, 1));
        x.set(0, 0);
        CHECKS.same("nothing", 0, x.night(0, 1));
        CHECKS.same("but not dark", 0, x.night(0, 0));
        x.set(1, 1);
        CHECKS.same("by fame alone", 45, x.night(0, 1));
        Recorded y = Views.loaded("Ba0pc0000");
        CHECKS.same("at first, without fame", 20, y.night(0, 1));
        CHECKS.same("no parts: dark", 0, Houses.sized(0, 10).about(4));
    }

    private static void aboutIs(String label, Recorded x, int... want) {
        for (int what = 0; what <= 6; what++) {
            CHECKS.same(label + ": about " + what, want[what], x.about(what));
        }
    }

    private static void about() {
        CHECKS.sentence("0: the parts; 1: the actors; 2: the slips; 3: the dark nights; 4: the takings of all nights;");
        aboutIs("nothing", new Recorded(), 0, 0, 0, 20, 0, 0, 0);
        int fame = 0;
        for (int n = 0; n < 20; n++) {
            fame += 0 + 1 + 2 + 3 + 4 + 5 - n % 6 + 6 + n % 4;
        }
        aboutIs("all there can be", Houses.full(), 6, 10, 20, 0, 20 * 20 + 3 * fame, 12, 20);
        aboutIs("nobody is cast", Houses.sized(6, 10), 6, 10, 0, 20, 0, 0, 0);
        aboutIs("one part, one actor", Houses.played(1, 1), 1, 1, 0, 0, 400, 1, 0);
        CHECKS.sentence("if what is not 0 to 6");
        Recorded x = Houses.full();
        for (int what : new int[] {-1, 7, Integer.MIN_VALUE, Integer.MAX_VALUE}) {
            CHECKS.refuses("about " + what, x, Checks.ARGUMENT, () -> x.about(what));
        }
    }

    private static void unlike() {
        CHECKS.sentence("5: the unlike bills of the nights that are not dark "
            + "(two are alike if each part is played by the same actor);");
        Recorded x = Houses.played(6, 10);
        CHECKS.same("all alike", 1, x.about(5));
        x.slip(0, 0, 9, 0);
        CHECKS.same("the first night's", 2, x.about(5));
        x.slip(19, 5, 9, 0);
        CHECKS.same("the last night's", 3, x.about(5));
        x.slip(10, 0, 0, 0);
        CHECKS.same("by a slip, but the same actor", 3, x.about(5));
        x.cast(0, 1, 12);
        x.cast(1, 0, 12);
        CHECKS.same("the same actors in other parts", 4, x.about(5));
        x.ill(2, 19, true);
        CHECKS.same("a dark night's does not count", 3, x.about(5));
        for (int n = 0; n < 20; n++) {
            x.ill(2, n, true);
        }
        CHECKS.same("all are dark", 0, x.about(5));
        Recorded y = Houses.sized(1, 2);
        y.cast(0, 0, 0);
        y.cast(0, 1, 19);
        CHECKS.same("actor 0 and actor 1", 2, y.about(5));
        Recorded z = Houses.sized(2, 10);
        for (int n = 0; n < 20; n++) {
            z.cast(0, n % 10, n);
            z.cast(1, (n % 10 + 1 + n / 10) % 10, n);
        }
        CHECKS.same("all unlike", 20, z.about(5));
    }

    private static void slipsThatPlay() {
        CHECKS.sentence("6: the slips by which a part is played on a night that is not dark");
        Recorded x = Houses.played(2, 4);
        CHECKS.same("none", 0, x.about(6));
        x.slip(0, 0, 2, 0);
        x.slip(0, 1, 3, 0);
        x.slip(19, 1, 3, 0);
        CHECKS.same("three", 3, x.about(6));
        x.slip(0, 0, 3, 0);
        CHECKS.same("one slip's actor has been taken", 2, x.about(6));
        x.ill(0, 19, true);
        CHECKS.same("a slip of a dark night", 1, x.about(6));
        CHECKS.same("by the last one", 1, x.found(3, 4));
        x.ill(1, 0, true);
        CHECKS.same("part 1 is lost on night 0", 0, x.about(6));
        CHECKS.same("all others play", 18, 20 - x.about(3));
        Recorded y = Houses.played(1, 3);
        y.slip(0, 0, 1, 0);
        y.slip(1, 0, 1, 0);
        y.ill(1, 0, true);
        CHECKS.same("the principal plays by no slip", 0, y.found(0, 4));
        CHECKS.same("one slip", 1, y.about(6));
        y.understudy(0, 2);
        y.ill(0, 0, true);
        taken("on night 0", y, 0, 0, 2, UNDERSTUDY);
        CHECKS.same("an understudy plays by no slip", 0, y.found(0, 4));
        CHECKS.same("one slip", 1, y.about(6));
        y.ill(2, 0, true);
        CHECKS.same("a lost part is played by no slip", 0, y.found(0, 4));
        CHECKS.same("one slip", 1, y.about(6));
    }

    private static void played() {
        CHECKS.sentence("Returns the actor; NONE if the night is dark.");
        Recorded x = Houses.played(6, 10);
        x.cast(0, 9, 0);
        CHECKS.same("the first", 9, x.played(0, 0));
        CHECKS.same("the last", 5, x.played(19, 5));
        x.ill(5, 19, true);
        for (int p = 0; p < 6; p++) {
            CHECKS.same("dark", NONE, x.played(19, p));
            CHECKS.same("not dark", p == 0 ? 9 : p, x.played(18, p));
        }
        Recorded y = Houses.sized(1, 1);
        CHECKS.same("nobody was ever cast", NONE, y.played(0, 0));
        y.cast(0, 0, 0);
        CHECKS.same("actor 0", 0, y.played(0, 0));
    }

    private static void bill() {
        CHECKS.sentence("0: its principal, NONE without one; 1: the actor who is taken for it, also if the night is "
            + "dark, NONE if the part is lost; 2: the reason, 0 to 3; 3: the slips that there are for it");
        Recorded x = Houses.sized(2, 4);
        CHECKS.same("without one", NONE, x.bill(0, 0, 0));
        CHECKS.same("lost", NONE, x.bill(0, 0, 1));
        CHECKS.same("lost", 0, x.bill(0, 0, 2));
        CHECKS.same("no slips", 0, x.bill(0, 0, 3));
        x.cast(0, 3, 0);
        x.ill(3, 0, true);
        CHECKS.same("an ill principal is one", 3, x.bill(0, 0, 0));
        x.understudy(0, 2);
        CHECKS.same("also if the night is dark", 2, x.bill(0, 0, 1));
        CHECKS.same("the reason too", 3, x.bill(0, 0, 2));
        CHECKS.same("the reason on another night", 2, x.bill(1, 0, 2));
        for (int k = 0; k < 20; k++) {
            x.slip(19, 1, k % 3, k);
            CHECKS.same("slips for it", k + 1, x.bill(19, 1, 3));
        }
        CHECKS.same("the last one's actor is taken", 1, x.bill(19, 1, 1));
        CHECKS.same("by it", 1, x.bill(19, 1, 2));
        CHECKS.same("no slips for part 0", 0, x.bill(19, 0, 3));
        CHECKS.same("no slips for night 18", 0, x.bill(18, 1, 3));
        CHECKS.sentence("if what is not 0 to 3");
        for (int what : new int[] {-1, 4, Integer.MIN_VALUE, Integer.MAX_VALUE}) {
            CHECKS.refuses("what " + what, x, Checks.ARGUMENT, () -> x.bill(0, 0, what));
        }
    }

    private static void night() {
        CHECKS.sentence("0: 1 if it is dark, otherwise 0; 1: its takings; 2: the actors who are ill, as a set; "
            + "3: the actors who play, as a set;");
        Recorded x = Houses.sized(6, 10);
        CHECKS.same("dark", 1, x.night(0, 0));
        CHECKS.same("nobody is ill", 0, x.night(0, 2));
        CHECKS.same("nobody plays", 0, x.night(0, 3));
        for (int p = 0; p < 6; p++) {
            x.cast(p, 9 - p, 0);
        }
        CHECKS.same("not dark", 0, x.night(0, 0));
        CHECKS.same("the last six play", 0x3f0, x.night(0, 3));
        CHECKS.same("takings", 20 + 3 * (9 + 8 + 7 + 6 + 5 + 4), x.night(0, 1));
        for (int a = 0; a < 10; a++) {
            x.ill(a, 19, true);
            CHECKS.same("ill up to " + a, (2 << a) - 1, x.night(19, 2));
        }
        CHECKS.same("all are ill", 1023, x.night(19, 2));
        CHECKS.same("nobody plays", 0, x.night(19, 3));
        CHECKS.same("dark", 1, x.night(19, 0));
        CHECKS.same("takings", 0, x.night(19, 1));
        CHECKS.same("nobody on night 18", 0, x.night(18, 2));
        Recorded one = Houses.played(1, 1);
        CHECKS.same("actor 0 plays", 1, one.night(0, 3));
        one.ill(0, 0, true);
        CHECKS.same("actor 0 is ill", 1, one.night(0, 2));
        CHECKS.sentence("if what is not 0 to 4");
        for (int what : new int[] {-1, 5, Integer.MIN_VALUE, Integer.MAX_VALUE}) {
            CHECKS.refuses("night 0, " + what, x, Checks.ARGUMENT, () -> x.night(0, what));
            CHECKS.refuses("night 19, " + what, x, Checks.ARGUMENT, () -> x.night(19, what));
        }
    }

    private static void partsOfOthers() {
        CHECKS.sentence("4: the parts that are not played by their principal, or have none (0 if it is dark)");
        Recorded x = Houses.played(6, 10);
        CHECKS.same("all by their principals", 0, x.night(0, 4));
        for (int p = 0; p < 6; p++) {
            x.understudy(p, 6);
            x.understudy(p, 7);
            x.understudy(p, 8);
            x.understudy(p, 9);
        }
        for (int p = 0; p < 4; p++) {
            x.ill(p, 0, true);
            CHECKS.same("by understudies", p + 1, x.night(0, 4));
        }
        x.slip(0, 4, 5, 0);
        x.slip(0, 5, 4, 0);
        CHECKS.same("all by others", 6, x.night(0, 4));
        x.ill(5, 0, true);
        CHECKS.same("dark", 1, x.night(0, 0));
        CHECKS.same("0 if it is dark", 0, x.night(0, 4));
        CHECKS.same("no parts", 0, Houses.sized(0, 3).night(0, 4));
        Recorded y = Houses.sized(2, 3);
        y.understudy(0, 0);
        y.slip(19, 1, 1, 0);
        CHECKS.same("both have none", 2, y.night(19, 4));
        CHECKS.same("dark", 0, y.night(18, 4));
        y.cast(1, 1, 19);
        CHECKS.same("its principal, by a slip", 1, y.night(19, 4));
        y.cast(1, 2, 19);
        CHECKS.same("another than its principal", 2, y.night(19, 4));
    }

    private static void actor() {
        CHECKS.sentence("0: the fame; 1: the nights on which the actor plays; 2: the first one of these, NONE without "
            + "one; 3: the last one, NONE without one; 4: the parts that the actor plays on some night, as a set; "
            + "5: the nights on which the actor is ill");
        Recorded x = Houses.played(6, 10);
        actorIs("on all nights", x, 5, 5, 20, 0, 19, 32, 0);
        actorIs("never", x, 9, 9, 0, NONE, NONE, 0, 0);
        x.slip(0, 1, 8, 0);
        actorIs("on the first night alone", x, 8, 8, 1, 0, 0, 2, 0);
        x.lose(0);
        x.slip(19, 5, 8, 0);
        actorIs("on the last night alone", x, 8, 8, 1, 19, 19, 32, 0);
        x.lose(0);
        x.slip(7, 2, 9, 0);
        actorIs("on one night", x, 9, 9, 1, 7, 7, 4, 0);
        x.slip(0, 0, 9, 0);
        x.slip(19, 5, 9, 0);
        actorIs("on the first and the last", x, 9, 9, 3, 0, 19, 37, 0);
        x.slip(1, 1, 9, 0);
        x.slip(2, 3, 9, 0);
        x.slip(3, 4, 9, 0);
        actorIs("in all parts", x, 9, 9, 6, 0, 19, 63, 0);
        x.ill(8, 0, true);
        actorIs("ill without a part", x, 8, 8, 0, NONE, NONE, 0, 1);
        x.ill(1, 0, true);
        x.ill(1, 19, true);
        actorIs("a dark night is not played", x, 9, 9, 4, 1, 7, 30, 0);
        actorIs("nor by the others", x, 5, 5, 18, 1, 18, 32, 0);
        for (int n = 0; n < 20; n++) {
            x.ill(4, n, true);
        }
        actorIs("ill on all nights", x, 4, 4, 0, NONE, NONE, 0, 20);
        actorIs("all nights are dark but one", x, 5, 5, 1, 3, 3, 32, 0);
        x.ill(9, 3, true);
        actorIs("all nights are dark", x, 5, 5, 0, NONE, NONE, 0, 0);
        CHECKS.sentence("if what is not 0 to 5");
        for (int what : new int[] {-1, 6, Integer.MIN_VALUE, Integer.MAX_VALUE}) {
            CHECKS.refuses("actor 0, " + what, x, Checks.ARGUMENT, () -> x.actor(0, what));
            CHECKS.refuses("actor 9, " + what, x, Checks.ARGUMENT, () -> x.actor(9, what));
        }
    }

    private static void actorIs(String label, Recorded x, int a, int... want) {
        for (int what = 0; what <= 5; what++) {
            CHECKS.same(label + ": actor " + a + ", " + what, want[what], x.actor(a, what));
        }
    }

    private static void ranked() {
        CHECKS.sentence("Returns the actor; NONE if there are not so many.");
        Recorded x = Houses.sized(6, 10);
        for (int count = 0; count <= 4; count++) {
            for (int k = 0; k < count; k++) {
                CHECKS.same("rank " + k + " of " + count, 9 - k, x.ranked(5, k));
            }
            for (int k : new int[] {count, count + 1, 5, 24, 1 << 30, Integer.MAX_VALUE}) {
                CHECKS.same("rank " + k + " of " + count, NONE, x.ranked(5, k));
            }
            CHECKS.same("of part 0", NONE, x.ranked(0, 0));
            if (count < 4) {
                x.understudy(5, 9 - count);
            }
        }
        CHECKS.sentence("if k is negative");
        for (int k : new int[] {-1, Integer.MIN_VALUE}) {
            CHECKS.refuses("rank " + k, x, Checks.ARGUMENT, () -> x.ranked(5, k));
            CHECKS.refuses("rank " + k + " of none", x, Checks.ARGUMENT, () -> x.ranked(0, k));
        }
    }

    private static void found() {
        CHECKS.sentence("0: its night; 1: its part; 2: its actor; 3: its hour; 4: 1 if the part is played by it, "
            + "on a night that is not dark, otherwise 0");
        Recorded x = Houses.played(6, 10);
        x.slip(0, 0, 9, 0);
        x.slip(19, 5, 0, 23);
        foundIs("the least", x, 0, 0, 0, 9, 0, 1);
        foundIs("its actor has been taken for part 0", x, 1, 19, 5, 0, 23, 0);
        x.slip(19, 0, 9, 23);
        foundIs("but not any more", x, 1, 19, 5, 0, 23, 1);
        x.slip(19, 0, 8, 23);
        foundIs("one of a greater number", x, 2, 19, 0, 9, 23, 0);
        x.ill(1, 19, true);
        foundIs("on a dark night", x, 3, 19, 0, 8, 23, 0);
        foundIs("on a dark night", x, 1, 19, 5, 0, 23, 0);
        foundIs("on another night", x, 0, 0, 0, 9, 0, 1);
        x.ill(9, 0, true);
        foundIs("if ill", x, 0, 0, 0, 9, 0, 0);
        x.lose(0);
        foundIs("one less", x, 0, 19, 5, 0, 23, 0);
        foundIs("one less", x, 2, 19, 0, 8, 23, 0);
        CHECKS.sentence("if what is not 0 to 4");
        for (int what : new int[] {-1, 5, Integer.MIN_VALUE, Integer.MAX_VALUE}) {
            CHECKS.refuses("slip 0, " + what, x, Checks.ARGUMENT, () -> x.found(0, what));
            CHECKS.refuses("slip 2, " + what, x, Checks.ARGUMENT, () -> x.found(2, what));
        }
    }

    private static void foundIs(String label, Recorded x, int k, int... want) {
        for (int what = 0; what <= 4; what++) {
            CHECKS.same(label + ": slip " + k + ", " + what, want[what], x.found(k, what));
        }
    }

    private static void setting() {
        CHECKS.sentence("if what is out of range");
        Recorded x = Houses.small();
        x.set(0, 99);
        x.set(1, 9);
        CHECKS.same("setting 0", 99, x.setting(0));
        CHECKS.same("setting 1", 9, x.setting(1));
        for (int what : new int[] {-1, 2, Integer.MIN_VALUE, Integer.MAX_VALUE}) {
            CHECKS.refuses("setting " + what, x, Checks.ARGUMENT, () -> x.setting(what));
        }
    }
}
