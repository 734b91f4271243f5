/** The edges of Term II, a DAY, and of promises 6 to 28, now, the next day and days to come. */
public final class EdgeDayTest {
    public static void main(String[] args) {
        Edges.run(EdgeDayTest.class);
    }

    private static LeanTable lay(String table, String[] people, int... names) {
        return Due.lay(Texts.table(table, people) + Texts.names(names));
    }

    private static String[] people(String... all) {
        return all;
    }

    /** a is DEAD with 82 behind the first day, b lives with 0. */
    private static String oneDies() {
        return Texts.table("bowl 2 starve 5 flinch 0", "plain 90 1", "plain 0 1") + Texts.names(0, 1, 50, 9);
    }

    // ---- II

    @Says({"II. A DAY, for all who live:", "1 each one's hunger is more by the need."})
    private static void promise49_eachOnesHungerIsMoreByTheNeed(Due due) {
        LeanTable x = lay("bowl 1 starve 200 flinch 0", people("plain 0 1", "plain 99 9"), 0, 1);
        due.is("seen(0)", x.seen(0), 1);
        due.is("seen(1)", x.seen(1), 108);
        x.bid(0);
        x.bid(1);
        x.day();
        due.is("person(0, 0)", x.person(0, 0), 1);
        due.is("person(1, 0)", x.person(1, 0), 108);
    }

    @Says({"2 SEEN hunger: of a plain one that;", "of a child twice that."})
    private static void promise9_seenHungerOfAPlainOneAndAChild(Due due) {
        LeanTable x = lay("bowl 1 starve 200 flinch 0", people("plain 0 1", "child 0 1", "child 99 9", "plain 99 9"), 0, 1);
        int[] seen = {1, 2, 216, 108};
        for (int p = 0; p < 4; p++) {
            due.is("seen(" + p + ")", x.seen(p), seen[p]);
            x.bid(p);
        }
        x.day();
        due.is("seen(0), fasting adds nothing", x.seen(0), 2);
        due.is("seen(1)", x.seen(1), 4);
    }

    @Says("of a poet that and 3 times as many days as FASTED one behind the other right ahead of that DAY;")
    private static void promise9_seenHungerOfAPoet(Due due) {
        LeanTable x = Due.lay(Texts.table("bowl 9 starve 90 flinch 0", "poet 0 1") + Texts.names(0, 9)
            + ";fast a day 1;fast a day 2;fast a day 4");
        int[] seen = {1, 5, 9, 1, 5, 1};
        for (int n = 0; n < seen.length; n++) {
            due.is("seen(0) ahead of day " + (n + 1), x.seen(0), seen[n]);
            x.day();
        }
    }

    @Says("3 The one of most SEEN hunger, of like ones the first, names the dish:")
    private static void promise11_ofLikeOnesTheFirstNames(Due due) {
        int[] names = {0, 1};
        due.is("namer(), both 6", lay("bowl 1 starve 99 flinch 0", people("plain 5 1", "child 2 1"), names).namer(), 0);
        due.is("namer(), both 6", lay("bowl 1 starve 99 flinch 0", people("child 2 1", "plain 5 1"), names).namer(), 0);
        due.is("namer(), 6 and 7", lay("bowl 1 starve 99 flinch 0", people("plain 5 1", "plain 5 2"), names).namer(), 1);
        due.is("namer(), 6, 8, 8", lay("bowl 1 starve 99 flinch 0", people("plain 5 1", "child 3 1", "poet 7 1"), names).namer(), 1);
        LeanTable x = lay("bowl 1 starve 99 flinch 0", people("plain 5 1", "child 2 1", "poet 5 1", "plain 4 2", "plain 3 3"), names);
        due.is("namer(), all 6", x.namer(), 0);
    }

    @Says("of names whose from is no more than that SEEN hunger the one of the greatest from.")
    private static void promise12_theNameOfTheGreatestFrom(Due due) {
        LeanTable x = lay("bowl 1 starve 99 flinch 0", people("plain 5 1"), 7, 1, 6, 1, 0, 1, 5, 1);
        due.is("dish(), 6 by from 6", x.dish(), 1);
        LeanTable y = lay("bowl 1 starve 99 flinch 0", people("plain 5 1"), 7, 1, 8, 1, 0, 1, 5, 1);
        due.is("dish(), 6 by from 5", y.dish(), 3);
        LeanTable ahead = lay("bowl 1 starve 99 flinch 0", people("plain 5 1"), 6, 1, 0, 1, 5, 1);
        due.is("dish(), the greatest is told first", ahead.dish(), 0);
        LeanTable two = lay("bowl 1 starve 99 flinch 0", people("plain 4 1", "plain 5 1"), 0, 1, 6, 1);
        due.is("dish(), by the one of most", two.dish(), 1);
        LeanTable z = lay("bowl 1 starve 99 flinch 0", people("plain 5 1"), 7, 1, 0, 1, 200, 1);
        due.is("dish(), 6 by from 0", z.dish(), 1);
        LeanTable most = lay("bowl 1 starve 99 flinch 0", people("child 99 9"), 0, 1, 200, 1);
        due.is("dish(), 216 by from 200", most.dish(), 1);
    }

    @Says("4 The bowl has its portions, and what was left (99 at most).")
    private static void promise19_99PortionsAtMost(Due due) {
        LeanTable x = lay("bowl 20 starve 200 flinch 0", people("plain 0 1"), 0, 0);
        x.bid(0);
        int[][] poured = {{78, 98}, {1, 99}, {1, 99}, {19, 99}};
        for (int[] p : poured) {
            x.pour(p[0]);
            due.is("leftIn(1) with " + x.left() + " left", x.leftIn(1), p[1]);
        }
        x.bid(0);
        due.is("share(0), worth nothing, of 99", x.share(0), 99);
        due.is("leftIn(1)", x.leftIn(1), 0);
    }

    @Says("Those who don't fast eat, the hungriest (not SEEN) ahead, of like ones the first,")
    private static void promise13_theHungriestEatsAhead(Due due) {
        LeanTable child = lay("bowl 1 starve 99 flinch 0", people("child 3 1", "plain 5 1"), 0, 1);
        due.is("namer()", child.namer(), 0);
        due.is("share(0), 4 though 8 is SEEN", child.share(0), 0);
        due.is("share(1)", child.share(1), 1);
        LeanTable like = lay("bowl 1 starve 99 flinch 0", people("plain 4 1", "plain 5 1", "plain 4 2"), 0, 1);
        due.is("share(0)", like.share(0), 0);
        due.is("share(1), the first of like ones", like.share(1), 1);
        due.is("share(2)", like.share(2), 0);
        like.bid(1);
        due.is("share(1), fasts", like.share(1), 0);
        due.is("share(2)", like.share(2), 1);
        due.is("namer(), fasting or not", like.namer(), 1);
    }

    @Says("in that order, round by round, one portion each time one's hunger is above 0:")
    private static void promise13_roundByRound(Due due) {
        LeanTable x = lay("bowl 5 starve 99 flinch 0", people("plain 1 1", "plain 9 1"), 0, 2);
        due.is("share(0), not hungry behind one", x.share(0), 1);
        due.is("share(1)", x.share(1), 4);
        LeanTable y = lay("bowl 7 starve 99 flinch 0", people("plain 5 1", "plain 6 1", "plain 7 1"), 0, 1);
        due.is("share(2), the first of all and in round 3", y.share(2), 3);
        due.is("share(1)", y.share(1), 2);
        due.is("share(0)", y.share(0), 2);
    }

    @Says("it is less by what that name is worth (0 at least);")
    private static void promise18_lessByTheWorth0AtLeast(Due due) {
        int[][] byHunger = {{1, 0, 1}, {2, 0, 1}, {3, 0, 2}, {0, 0, 1}};
        for (int[] h : byHunger) {
            LeanTable x = lay("bowl 9 starve 99 flinch 0", people("plain " + h[0] + " 1"), 0, 3);
            due.is("hungerIn(0, 1) of " + h[0], x.hungerIn(0, 1), h[1]);
            due.is("share(0)", x.share(0), h[2]);
        }
        LeanTable most = lay("bowl 1 starve 99 flinch 0", people("plain 20 1"), 0, 20);
        due.is("hungerIn(0, 1), 21 less 20", most.hungerIn(0, 1), 1);
    }

    @Says({"till there is no portion more, or nobody of them is hungry.", "What isn't eaten is left."})
    private static void promise19_whatIsntEatenIsLeft(Due due) {
        LeanTable x = lay("bowl 5 starve 99 flinch 0", people("plain 0 1"), 0, 1);
        due.is("leftIn(1)", x.leftIn(1), 4);
        due.is("leftIn(2)", x.leftIn(2), 8);
        LeanTable y = lay("bowl 5 starve 99 flinch 0", people("plain 4 1"), 0, 1);
        due.is("leftIn(1), the last one is eaten", y.leftIn(1), 0);
        due.is("hungerIn(0, 1)", y.hungerIn(0, 1), 0);
        LeanTable z = lay("bowl 5 starve 99 flinch 0", people("plain 5 1"), 0, 1);
        due.is("hungerIn(0, 1), there is no more", z.hungerIn(0, 1), 1);
        z.bid(0);
        due.is("leftIn(1), all fast", z.leftIn(1), 5);
    }

    @Says("5 Whose hunger is above starve is DEAD,")
    private static void promise20_aboveStarveIsDead(Due due) {
        LeanTable x = lay("bowl 1 starve 9 flinch 0", people("plain 8 1"), 0, 0);
        due.is("livingIn(1), 9", x.livingIn(1), 1);
        due.is("livingIn(2), 10", x.livingIn(2), 0);
        LeanTable y = lay("bowl 1 starve 9 flinch 0", people("plain 9 1"), 0, 1);
        due.is("livingIn(1), 10 less 1 that is eaten first", y.livingIn(1), 1);
        LeanTable z = lay("bowl 1 starve 5 flinch 0", people("plain 99 1"), 0, 20);
        due.is("person(0, 4), not ahead of a DAY", z.person(0, 4), 0);
        due.is("seen(0)", z.seen(0), 100);
    }

    @Says("ever after; it stays as it is.")
    private static void promise20_deadEverAfter(Due due) {
        LeanTable x = Due.lay(oneDies());
        due.is("namerIn(1)", x.namerIn(1), 0);
        due.is("namerIn(2), the DEAD one doesn't", x.namerIn(2), 1);
        due.is("dishIn(2)", x.dishIn(2), 0);
        due.is("hungerIn(0, 1)", x.hungerIn(0, 1), 82);
        due.is("hungerIn(0, 60)", x.hungerIn(0, 60), 82);
        due.is("eats(0, 60)", x.eats(0, 60), 1);
        due.is("leftIn(2), one for b alone", x.leftIn(2), 1);
        due.is("livingIn(60)", x.livingIn(60), 2);
    }

    @Says("(With nobody who lives nothing is named, nothing eaten; portions are left as ever.)")
    private static void promise17_withNobodyWhoLives(Due due) {
        LeanTable x = Due.lay(Texts.DOOMED);
        due.is("dishIn(1)", x.dishIn(1), 0);
        due.is("dishIn(2)", x.dishIn(2), -2);
        due.is("namerIn(2)", x.namerIn(2), -2);
        due.is("eats(0, 60)", x.eats(0, 60), 1);
        due.is("leftIn(1)", x.leftIn(1), 0);
        due.is("leftIn(60)", x.leftIn(60), 59);
        LeanTable y = Due.lay(Texts.DOOMED.replace("bowl 1", "bowl 20"));
        due.is("leftIn(5)", y.leftIn(5), 80);
        due.is("leftIn(6), 99 at most", y.leftIn(6), 99);
        due.is("leftIn(7)", y.leftIn(7), 99);
    }

    @Says("One FASTS on a DAY if told so for its number (1 the first),")
    private static void promise24_oneFastsOnADayAsTold(Due due) {
        LeanTable x = Due.lay(Texts.FED + ";fast a day 1;fast a day 60");
        due.is("share(0), the first day", x.share(0), 0);
        due.is("hungerIn(0, 1)", x.hungerIn(0, 1), 1);
        due.is("eats(0, 2), what was left too", x.eats(0, 2), 2);
        due.is("eats(0, 59)", x.eats(0, 59), 59);
        due.is("eats(0, 60), two portions on one day, none on two", x.eats(0, 60), 59);
        x.day();
        due.is("eats(0, 59), from the 2nd on", x.eats(0, 59), 59);
        due.is("eats(0, 58)", x.eats(0, 58), 59);
        due.is("eats(0, 60)", x.eats(0, 60), 61);
    }

    @Says("or if NOW bidden to for the next one (behind which nobody is bidden any more).")
    private static void promise50_biddenForTheNextDayAlone(Due due) {
        LeanTable x = Due.lay(Texts.table("bowl 9 starve 99 flinch 0", "plain 0 1", "plain 0 1") + Texts.names(0, 1));
        x.bid(0);
        x.bid(1);
        due.is("eats(0, 1)", x.eats(0, 1), 0);
        due.is("eats(0, 2)", x.eats(0, 2), 2);
        x.day();
        due.is("person(0, 5)", x.person(0, 5), 0);
        due.is("person(1, 5)", x.person(1, 5), 0);
        due.is("share(1)", x.share(1), 2);
    }

    // ---- now

    @Says("Of a person 0 hunger NOW, 1 need, 2 KIND (0 plain, 1 poet, 2 child), 3 how many DAYS FASTED right ahead, 4 1 if DEAD, 5 1 if bidden to fast.")
    private static void promise6_ofAPerson(Due due) {
        LeanTable x = Due.lay(Texts.table("bowl 9 starve 60 flinch 0", "child 3 8", "poet 2 7", "plain 50 9") + Texts.names(0, 0)
            + ";fast b day 1;fast b day 2");
        int[][] first = {{3, 8, 2, 0, 0, 0}, {2, 7, 1, 0, 0, 0}, {50, 9, 0, 0, 0, 0}};
        int[][] then = {{19, 8, 2, 0, 0, 0}, {16, 7, 1, 2, 0, 1}, {68, 9, 0, 0, 1, 0}};
        all(due, x, first);
        x.day();
        x.day();
        x.bid(1);
        all(due, x, then);
    }

    private static void all(Due due, LeanTable x, int[][] want) {
        for (int p = 0; p < want.length; p++) {
            for (int what = 0; what < 6; what++) {
                due.answered("person(" + p + ", " + what + ")", x, x.person(p, what), want[p][what]);
            }
        }
    }

    @Says("NONE: 1.")
    private static void promise6_noneSuch(Due due) {
        LeanTable x = Due.lay(Texts.FEAST);
        due.refusedBy(1, x, p -> x.person(p, 0), 3, 4, 5, 32);
        due.refusedBy(1, x, what -> x.person(0, what), 6, 7);
        due.refusedBy(1, x, what -> x.person(2, what), 6, 12);
        due.noTable(none -> none.person(0, 0));
    }

    @Says("Of a name 0 from, 1 worth NOW.")
    private static void promise7_ofAName(Due due) {
        LeanTable x = Due.lay(Texts.FEAST);
        due.answered("name(2, 0)", x, x.name(2, 0), 12);
        due.answered("name(2, 1)", x, x.name(2, 1), 5);
        x.value(2, 20);
        due.answered("name(2, 1), NOW", x, x.name(2, 1), 20);
        due.answered("name(2, 0)", x, x.name(2, 0), 12);
        x.value(2, 0);
        due.answered("name(2, 1)", x, x.name(2, 1), 0);
    }

    @Says("NONE: 1.")
    private static void promise7_noneSuch(Due due) {
        LeanTable x = Due.lay(Texts.FEAST);
        due.refusedBy(1, x, k -> x.name(k, 0), 3, 7, 8);
        due.refusedBy(1, x, what -> x.name(0, what), 2, 3);
        due.noTable(none -> none.name(0, 0));
    }

    @Says({"Portions that are left.", "NONE: 1 (no TABLE)."})
    private static void promise8_left(Due due) {
        LeanTable x = Due.lay(Texts.FED);
        due.answered("left()", x, x.left(), 0);
        x.pour(99);
        due.answered("left()", x, x.left(), 99);
        due.noTable(LeanTable::left);
    }

    // ---- the next day

    @Says({"SEEN hunger on the next DAY; -2 DEAD.", "NONE: 1."})
    private static void promise9_seen(Due due) {
        LeanTable x = Due.lay(oneDies());
        due.answered("seen(0)", x, x.seen(0), 91);
        x.day();
        due.answered("seen(0), DEAD", x, x.seen(0), -2);
        due.answered("seen(1)", x, x.seen(1), 1);
        due.refusedBy(1, x, x::seen, 2, 4, 5);
        due.noTable(none -> none.seen(0));
    }

    @Says({"The name one would call the dish; -2 DEAD.", "NONE: 1."})
    private static void promise10_calls(Due due) {
        LeanTable x = Due.lay(oneDies());
        due.answered("calls(0)", x, x.calls(0), 1);
        due.answered("calls(1), though another names", x, x.calls(1), 0);
        x.day();
        due.answered("calls(0), DEAD", x, x.calls(0), -2);
        due.answered("calls(1)", x, x.calls(1), 0);
        due.refusedBy(1, x, x::calls, 2, 4, 5);
        due.noTable(none -> none.calls(0));
        LeanTable from = lay("bowl 1 starve 99 flinch 0", people("plain 5 1", "plain 6 1", "plain 7 1"), 0, 1, 7, 1);
        due.is("calls(0), 6", from.calls(0), 0);
        due.is("calls(1), 7", from.calls(1), 1);
        due.is("calls(2), 8", from.calls(2), 1);
    }

    @Says({"Who names; -2 nobody.", "NONE: 1 (no TABLE)."})
    private static void promise11_namer(Due due) {
        LeanTable x = Due.allDead();
        due.answered("namer(), nobody", x, x.namer(), -2);
        x.undo();
        due.answered("namer()", x, x.namer(), 0);
        due.noTable(LeanTable::namer);
    }

    @Says({"What name the dish has; -2 none.", "NONE: 1 (no TABLE)."})
    private static void promise12_dish(Due due) {
        LeanTable x = Due.allDead();
        due.answered("dish(), none", x, x.dish(), -2);
        x.undo();
        due.answered("dish()", x, x.dish(), 0);
        due.noTable(LeanTable::dish);
    }

    @Says({"How many portions one eats.", "NONE: 1."})
    private static void promise13_share(Due due) {
        LeanTable x = Due.lay(oneDies());
        due.answered("share(0)", x, x.share(0), 1);
        x.bid(0);
        due.answered("share(0), who fasts", x, x.share(0), 0);
        due.answered("share(1)", x, x.share(1), 1);
        x.day();
        due.answered("share(0), DEAD", x, x.share(0), 0);
        due.answered("size(8), no day went by for it", x, x.size(8), 1);
        due.refusedBy(1, x, x::share, 2, 4, 5);
        due.noTable(none -> none.share(0));
        LeanTable dead = Due.allDead();
        due.answered("share(0), nobody lives", dead, dead.share(0), 0);
    }

    @Says("The name if a GUEST of so much SEEN hunger (0 .. 999) is there (his, if nobody lives).")
    private static void promise14_nameWith(Due due) {
        LeanTable x = lay("bowl 1 starve 200 flinch 0", people("plain 9 1", "plain 3 1"), 0, 1, 4, 1, 10, 1, 11, 1, 200, 1);
        int[][] guests = {{0, 2}, {4, 2}, {9, 2}, {10, 2}, {11, 3}, {199, 3}, {200, 4}, {999, 4}};
        for (int[] g : guests) {
            due.answered("nameWith(" + g[0] + ")", x, x.nameWith(g[0]), g[1]);
        }
        LeanTable dead = Due.lay(Texts.DOOMED + ";name m from 1 worth 0;name o from 200 worth 0");
        dead.day();
        int[][] alone = {{0, 0}, {1, 1}, {199, 1}, {200, 2}, {999, 2}};
        for (int[] g : alone) {
            due.answered("nameWith(" + g[0] + "), nobody lives", dead, dead.nameWith(g[0]), g[1]);
        }
    }

    @Says("NONE: 1 (no TABLE); 2.")
    private static void promise14_refused(Due due) {
        LeanTable x = Due.lay(Texts.FEAST);
        due.refusedBy(2, x, x::nameWith, 1000);
        due.noTable(none -> none.nameWith(0));
        due.noTable(none -> none.nameWith(1000));
    }

    @Says({"The least SEEN hunger of a GUEST by which the dish has a name that it hasn't else; -2 none (0 .. 999), or it has it.",
        "NONE: 1."})
    private static void promise15_guestFor(Due due) {
        LeanTable x = lay("bowl 1 starve 200 flinch 0", people("plain 9 1", "plain 3 1"), 0, 1, 4, 1, 10, 1, 11, 1, 200, 1);
        int[] guests = {-2, -2, -2, 11, 200};
        for (int k = 0; k < 5; k++) {
            due.answered("guestFor(" + k + ")", x, x.guestFor(k), guests[k]);
        }
        LeanTable most = lay("bowl 1 starve 200 flinch 0", people("child 99 9"), 0, 1, 199, 1, 200, 1);
        for (int k = 0; k < 3; k++) {
            due.answered("guestFor(" + k + "), 216 is SEEN", most, most.guestFor(k), -2);
        }
        LeanTable dead = Due.lay(Texts.DOOMED + ";name m from 1 worth 0;name o from 200 worth 0");
        dead.day();
        int[] alone = {0, 1, 200};
        for (int k = 0; k < 3; k++) {
            due.answered("guestFor(" + k + "), nobody lives", dead, dead.guestFor(k), alone[k]);
        }
        due.refusedBy(1, x, x::guestFor, 5, 8);
        due.noTable(none -> none.guestFor(0));
    }

    // ---- days to come

    @Says({"Who names on the n-th DAY from NOW on (1 .. 60); -2.", "NONE: 1 (no TABLE); 2."})
    private static void promise16_namerIn(Due due) {
        LeanTable x = Due.lay(Texts.LATE);
        due.answered("namerIn(1)", x, x.namerIn(1), 0);
        due.answered("namerIn(59)", x, x.namerIn(59), 0);
        due.answered("namerIn(60)", x, x.namerIn(60), 1);
        x.day();
        due.answered("namerIn(59), from NOW on", x, x.namerIn(59), 1);
        due.answered("namerIn(60), nobody", x, x.namerIn(60), -2);
        due.refusedBy(2, x, x::namerIn, 0, 61);
        due.noTable(none -> none.namerIn(1));
        due.noTable(none -> none.namerIn(0));
    }

    @Says({"The name of its dish; -2.", "NONE: 1 (no TABLE); 2."})
    private static void promise17_dishIn(Due due) {
        LeanTable x = Due.lay(Texts.LATE);
        due.answered("dishIn(1)", x, x.dishIn(1), 0);
        due.answered("dishIn(58), 59 is SEEN", x, x.dishIn(58), 0);
        due.answered("dishIn(59), 60", x, x.dishIn(59), 1);
        due.answered("dishIn(60), 60", x, x.dishIn(60), 1);
        x.day();
        due.answered("dishIn(60), nobody", x, x.dishIn(60), -2);
        due.refusedBy(2, x, x::dishIn, 0, 61);
        due.noTable(none -> none.dishIn(1));
        due.noTable(none -> none.dishIn(61));
    }

    @Says({"Hunger behind n DAYS (0 .. 60).", "NONE: 1; 2."})
    private static void promise18_hungerIn(Due due) {
        LeanTable x = Due.lay(Texts.LATE);
        int[][] hungers = {{0, 1, 0}, {1, 2, 1}, {58, 59, 58}, {59, 60, 59}, {60, 60, 60}};
        for (int[] h : hungers) {
            due.answered("hungerIn(0, " + h[0] + ")", x, x.hungerIn(0, h[0]), h[1]);
            due.answered("hungerIn(1, " + h[0] + ")", x, x.hungerIn(1, h[0]), h[2]);
        }
        due.refusedBy(1, x, p -> x.hungerIn(p, 0), 2, 5);
        due.refusedBy(1, x, p -> x.hungerIn(p, 61), 2, 5);
        due.refusedBy(2, x, n -> x.hungerIn(1, n), 61);
        due.noTable(none -> none.hungerIn(0, 0));
    }

    @Says({"Portions left then.", "NONE: 1 (no TABLE); 2."})
    private static void promise19_leftIn(Due due) {
        LeanTable x = Due.lay(Texts.DOOMED);
        x.pour(3);
        due.answered("leftIn(0)", x, x.leftIn(0), 3);
        due.answered("leftIn(1), x eats all four", x, x.leftIn(1), 0);
        due.answered("leftIn(60)", x, x.leftIn(60), 59);
        due.refusedBy(2, x, x::leftIn, 61);
        due.noTable(none -> none.leftIn(0));
        due.noTable(none -> none.leftIn(61));
    }

    @Says({"Who lives then, as bits.", "NONE: 1 (no TABLE); 2."})
    private static void promise20_livingIn(Due due) {
        LeanTable x = Due.lay(Texts.LATE);
        int[][] bits = {{0, 3}, {58, 3}, {59, 2}, {60, 0}};
        for (int[] b : bits) {
            due.answered("livingIn(" + b[0] + ")", x, x.livingIn(b[0]), b[1]);
        }
        LeanTable five = lay("bowl 1 starve 200 flinch 0", people("plain 1 1", "plain 1 1", "plain 1 1", "plain 1 1", "plain 1 1"), 0, 1);
        due.answered("livingIn(0) of five", five, five.livingIn(0), 31);
        due.refusedBy(2, x, x::livingIn, 61);
        due.noTable(none -> none.livingIn(0));
        due.noTable(none -> none.livingIn(-1));
    }

    @Says({"Who is hungriest (not SEEN) of those who live then, the first such; -2 nobody.", "NONE: 1 (no TABLE); 2."})
    private static void promise21_hungriestIn(Due due) {
        LeanTable x = Due.lay(Texts.LATE);
        int[][] who = {{0, 0}, {58, 0}, {59, 1}, {60, -2}};
        for (int[] w : who) {
            due.answered("hungriestIn(" + w[0] + ")", x, x.hungriestIn(w[0]), w[1]);
        }
        LeanTable like = lay("bowl 1 starve 200 flinch 0", people("child 4 1", "plain 5 1", "plain 5 1"), 0, 1);
        due.answered("hungriestIn(0), the first such, not SEEN", like, like.hungriestIn(0), 1);
        due.answered("hungriestIn(1), 5 5 6", like, like.hungriestIn(1), 2);
        due.refusedBy(2, x, x::hungriestIn, 61);
        due.noTable(none -> none.hungriestIn(0));
        due.noTable(none -> none.hungriestIn(61));
    }

    @Says({"By how much his hunger then is more than the least of theirs (0 with nobody).", "NONE: 1 (no TABLE); 2."})
    private static void promise22_unevenIn(Due due) {
        LeanTable x = Due.lay(Texts.LATE);
        int[][] uneven = {{0, 1}, {58, 1}, {59, 0}, {60, 0}};
        for (int[] u : uneven) {
            due.answered("unevenIn(" + u[0] + ")", x, x.unevenIn(u[0]), u[1]);
        }
        LeanTable wide = lay("bowl 1 starve 200 flinch 0", people("plain 7 1", "plain 0 1", "plain 99 1"), 0, 1);
        due.answered("unevenIn(0)", wide, wide.unevenIn(0), 99);
        LeanTable least = lay("bowl 1 starve 200 flinch 0", people("plain 2 1", "plain 7 1", "plain 3 1"), 0, 1);
        due.answered("unevenIn(0), the first has least", least, least.unevenIn(0), 5);
        LeanTable dies = Due.lay(Texts.table("bowl 1 starve 100 flinch 0", "plain 7 1", "plain 0 1", "plain 99 9") + Texts.names(0, 1));
        due.answered("unevenIn(1), 8 and 1 of those who live", dies, dies.unevenIn(1), 7);
        due.refusedBy(2, x, x::unevenIn, 61);
        due.noTable(none -> none.unevenIn(0));
        due.noTable(none -> none.unevenIn(61));
    }

    @Says({"Behind how many DAYS (0 .. 60) one is DEAD first; -2.", "NONE: 1."})
    private static void promise23_deadIn(Due due) {
        LeanTable x = Due.lay(Texts.LATE);
        due.answered("deadIn(0)", x, x.deadIn(0), 59);
        due.answered("deadIn(1), behind 60", x, x.deadIn(1), 60);
        LeanTable y = Due.lay(Texts.LATE.replace("starve 59", "starve 60"));
        due.answered("deadIn(0), behind 60", y, y.deadIn(0), 60);
        due.answered("deadIn(1), behind 61", y, y.deadIn(1), -2);
        LeanTable dead = Due.allDead();
        due.answered("deadIn(0), NOW", dead, dead.deadIn(0), 0);
        due.refusedBy(1, x, x::deadIn, 2, 5);
        due.noTable(none -> none.deadIn(0));
    }

    @Says({"How many portions one eats within n DAYS (0 .. 60).", "NONE: 1; 2."})
    private static void promise24_eats(Due due) {
        LeanTable x = Due.lay(Texts.LATE);
        int[][] eaten = {{0, 0, 0}, {1, 1, 0}, {59, 59, 0}, {60, 59, 1}};
        for (int[] e : eaten) {
            due.answered("eats(0, " + e[0] + ")", x, x.eats(0, e[0]), e[1]);
            due.answered("eats(1, " + e[0] + ")", x, x.eats(1, e[0]), e[2]);
        }
        due.refusedBy(1, x, p -> x.eats(p, 0), 2, 5);
        due.refusedBy(1, x, p -> x.eats(p, 61), 2);
        due.refusedBy(2, x, n -> x.eats(1, n), 61);
        due.noTable(none -> none.eats(0, 0));
    }

    @Says({"How often one names within them.", "NONE: 1; 2."})
    private static void promise25_says(Due due) {
        LeanTable x = Due.lay(Texts.LATE);
        int[][] said = {{0, 0, 0}, {1, 1, 0}, {59, 59, 0}, {60, 59, 1}};
        for (int[] s : said) {
            due.answered("says(0, " + s[0] + ")", x, x.says(0, s[0]), s[1]);
            due.answered("says(1, " + s[0] + ")", x, x.says(1, s[0]), s[2]);
        }
        due.refusedBy(1, x, p -> x.says(p, 0), 2, 5);
        due.refusedBy(1, x, p -> x.says(p, 61), 2);
        due.refusedBy(2, x, n -> x.says(1, n), 61);
        due.noTable(none -> none.says(0, 0));
    }

    @Says({"The first DAY from NOW on (1 .. 60) whose dish has a name; -2.", "NONE: 1."})
    private static void promise26_firstDish(Due due) {
        LeanTable x = Due.lay(Texts.LATE + ";name o from 61 worth 0");
        due.answered("firstDish(0)", x, x.firstDish(0), 1);
        due.answered("firstDish(1)", x, x.firstDish(1), 59);
        due.answered("firstDish(2)", x, x.firstDish(2), -2);
        LeanTable y = Due.lay(Texts.LATE.replace("hunger 1 need", "hunger 0 need"));
        due.answered("firstDish(1), on day 60", y, y.firstDish(1), 60);
        LeanTable z = Due.lay(Texts.LATE.replace("hunger 1 need", "hunger 0 need").replace("from 60", "from 61").replace("starve 59", "starve 99"));
        due.answered("firstDish(1), on day 61", z, z.firstDish(1), -2);
        LeanTable dead = Due.allDead();
        due.answered("firstDish(0), nobody lives", dead, dead.firstDish(0), -2);
        due.refusedBy(1, x, x::firstDish, 3, 8);
        due.noTable(none -> none.firstDish(0));
    }

    @Says({"Names that dishes have within n DAYS (0 .. 60), as bits.", "NONE: 1 (no TABLE); 2."})
    private static void promise27_named(Due due) {
        LeanTable x = Due.lay(Texts.LATE);
        int[][] bits = {{0, 0}, {1, 1}, {58, 1}, {59, 3}, {60, 3}};
        for (int[] b : bits) {
            due.answered("named(" + b[0] + ")", x, x.named(b[0]), b[1]);
        }
        due.answered("named(1), once more", x, x.named(1), 1);
        LeanTable eighth = lay("bowl 1 starve 99 flinch 0", people("plain 9 1"), 0, 1, 1, 1, 2, 1, 3, 1, 4, 1, 5, 1, 6, 1, 10, 1);
        due.answered("named(1), the eighth", eighth, eighth.named(1), 128);
        LeanTable dead = Due.allDead();
        due.answered("named(60), nobody lives", dead, dead.named(60), 0);
        due.refusedBy(2, x, x::named, 61);
        due.noTable(none -> none.named(0));
        due.noTable(none -> none.named(61));
    }

    @Says({"What those dishes are worth together, DAY by DAY (0 without a name).", "NONE: 1 (no TABLE); 2."})
    private static void promise28_worthIn(Due due) {
        LeanTable x = Due.lay(Texts.FED);
        int[][] worths = {{0, 0}, {1, 1}, {59, 59}, {60, 60}};
        for (int[] w : worths) {
            due.answered("worthIn(" + w[0] + ")", x, x.worthIn(w[0]), w[1]);
        }
        x.value(0, 20);
        due.answered("worthIn(60), NOW", x, x.worthIn(60), 1200);
        LeanTable dies = Due.lay(Texts.DOOMED.replace("worth 0", "worth 1"));
        due.answered("worthIn(60), one day has a name", dies, dies.worthIn(60), 1);
        due.refusedBy(2, x, x::worthIn, 61);
        due.noTable(none -> none.worthIn(0));
        due.noTable(none -> none.worthIn(61));
    }
}
