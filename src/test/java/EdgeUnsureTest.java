/** The edges of Term III's FITS, ASK, REST and FLINCH, and of promises 36 to 48: unsure hungers, cook and glutton, who flinches. */
public final class EdgeUnsureTest {
    private static final String FOUR = Texts.table("bowl 5 starve 100 flinch 0", "plain 5 1", "plain 5 1", "plain 5 1", "plain 5 1")
        + Texts.names(0, 1, 11, 1, 21, 1) + ";unsure a 10;unsure b 20;unsure c 10;unsure d 20";
    /** m by b, and n by a, on each of the days. */
    private static final String APART = Texts.table("bowl 1 starve 200 flinch 37", "plain 10 1", "plain 0 1") + Texts.names(0, 0, 11, 0);
    /** Each flinch of five days makes a less hungry by 5: o by a on day 6 if all five were, m by b, n by a else. */
    private static final String SIX = Texts.table("bowl 1 starve 200 flinch 1", "plain 99 1", "plain 0 1")
        + Texts.names(0, 5, 81, 0, 70, 20);

    public static void main(String[] args) {
        Edges.run(EdgeUnsureTest.class);
    }

    private static void fitting(Due due, LeanTable x, int... sets) {
        due.answered("fits()", x, x.fits(), sets.length);
        int some = 0;
        int all = sets.length == 0 ? 0 : -1;
        for (int i = 0; i < sets.length; i++) {
            due.answered("fitAt(" + i + ")", x, x.fitAt(i), sets[i]);
            some |= sets[i];
            all &= sets[i];
        }
        due.refused("fitAt(" + sets.length + ")", x, x.fitAt(sets.length), 1);
        due.answered("could()", x, x.could(), some);
        due.answered("surely()", x, x.surely(), all);
    }

    private static void asking(Due due, LeanTable x, int whom, int leaves) {
        due.answered("ask()", x, x.ask(), whom);
        due.answered("askLeaves()", x, x.askLeaves(), leaves);
    }

    // ---- III: FITS and ASK

    @Says("FITS: sets of unsure people whose hunger at first was the other one")
    private static void promise36_fitsAreSetsOfUnsurePeople(Due due) {
        fitting(due, Due.lay(Texts.UNSURE), 0);
        fitting(due, Due.lay(Texts.UNSURE + ";unsure b 5"), 0, 1);
        fitting(due, Due.lay(FOUR), 0, 1, 2, 3, 4, 5, 6, 7, 8, 9, 10, 11, 12, 13, 14, 15);
        fitting(due, Due.lay(FOUR + ";heard n day 1"), 1, 4, 5);
        fitting(due, Due.lay(FOUR + ";heard m day 1"), 0);
    }

    @Says("by which, from the beginning on (as told, nothing else done), each name heard was the dish's of that DAY: all such.")
    private static void promise36_fromTheBeginningOnAsTold(Due due) {
        LeanTable x = Due.lay(Texts.UNSURE + ";unsure a 10;unsure b 20;heard mid day 1;heard mid day 2;fast a day 1");
        fitting(due, x, 1);
        x.bid(0);
        x.give(0, 5);
        x.pour(50);
        x.value(0, 20);
        x.value(1, 20);
        fitting(due, x, 1);
        x.day();
        x.day();
        fitting(due, x, 1);
        due.is("judge()", x.judge(), 0);
    }

    @Says("each name heard was the dish's of that DAY: all such.")
    private static void promise36_eachNameHeardOnItsDay(Due due) {
        String text = Texts.table("bowl 1 starve 99 flinch 0", "plain 0 1") + Texts.names(0, 0, 61, 0) + ";unsure a 1";
        fitting(due, Due.lay(text + ";heard n day 60"), 1);
        fitting(due, Due.lay(text + ";heard m day 60"), 0);
        fitting(due, Due.lay(text + ";heard m day 59"), 0, 1);
        fitting(due, Due.lay(text + ";heard n day 59"));
        fitting(due, Due.lay(text + ";heard m day 1;heard n day 60"), 1);
        fitting(due, Due.lay(text + ";heard n day 60;heard n day 1"));
        fitting(due, Due.lay(Texts.DOOMED + ";heard n day 1"), 0);
        fitting(due, Due.lay(Texts.DOOMED + ";heard n day 2"));
    }

    @Says("ASK: the unsure one by whom, it being told, at most fewest FITS are left, the first such.")
    private static void promise40_askTheOneByWhomFewestAreLeft(Due due) {
        asking(due, Due.lay(FOUR), 0, 8);
        asking(due, Due.lay(FOUR + ";heard n day 1"), 0, 2);
        asking(due, Due.lay(Texts.UNSURE + ";unsure b 20;unsure a 10;heard top day 1"), 1, 1);
        asking(due, Due.lay(Texts.UNSURE + ";unsure a 10;unsure b 20;heard top day 1"), 0, 1);
        LeanTable last = Due.lay(FOUR.replace("unsure a 10", "unsure a 4").replace("unsure c 10", "unsure c 4")
            .replace("unsure d 20", "unsure d 10") + ";heard n day 1");
        fitting(due, last, 8, 9, 12, 13);
        asking(due, last, 0, 2);
        LeanTable third = Due.lay(FOUR.replace("unsure a 10", "unsure a 20").replace("unsure d 20", "unsure d 99") + ";heard n day 1");
        fitting(due, third, 4);
        asking(due, third, 0, 1);
    }

    @Says({"FITS: how many.", "NONE: 1 (no TABLE)."})
    private static void promise36_fits(Due due) {
        LeanTable x = Due.lay(FOUR);
        due.answered("fits(), all sets", x, x.fits(), 16);
        LeanTable none = Due.lay(FOUR + ";heard o day 1;heard m day 2");
        due.answered("fits(), not one", none, none.fits(), 0);
        due.noTable(LeanTable::fits);
    }

    @Says({"The i-th, by bits of unsure people as told.", "NONE: 1 (i, too)."})
    private static void promise37_fitAt(Due due) {
        LeanTable x = Due.lay(FOUR);
        due.answered("fitAt(0)", x, x.fitAt(0), 0);
        due.answered("fitAt(15)", x, x.fitAt(15), 15);
        due.refusedBy(1, x, x::fitAt, 16, 17, 32);
        LeanTable order = Due.lay(Texts.UNSURE + ";unsure b 20;unsure a 4;heard top day 1");
        due.answered("fitAt(0), b is told first", order, order.fitAt(0), 1);
        due.answered("fitAt(1)", order, order.fitAt(1), 3);
        due.refusedBy(1, order, order::fitAt, 2);
        due.noTable(none -> none.fitAt(0));
    }

    @Says({"Unsure people in some, as bits.", "NONE: 1 (no TABLE)."})
    private static void promise38_could(Due due) {
        LeanTable x = Due.lay(FOUR + ";heard n day 1");
        due.answered("could(), a and c", x, x.could(), 5);
        LeanTable none = Due.lay(FOUR + ";heard o day 1;heard m day 2");
        due.answered("could(), there is no set", none, none.could(), 0);
        due.noTable(LeanTable::could);
    }

    @Says({"Unsure people in all (0 without a set), as bits.", "NONE: 1 (no TABLE)."})
    private static void promise39_surely(Due due) {
        LeanTable x = Due.lay(Texts.UNSURE + ";unsure a 4;unsure b 20;heard top day 1");
        due.answered("surely(), b", x, x.surely(), 2);
        LeanTable none = Due.lay(FOUR + ";heard o day 1;heard m day 2");
        due.answered("surely(), there is no set", none, none.surely(), 0);
        LeanTable nobody = Due.lay(Texts.FED);
        due.answered("surely(), nobody is unsure", nobody, nobody.surely(), 0);
        due.noTable(LeanTable::surely);
    }

    @Says({"ASK; -2 no FITS, nobody unsure.", "NONE: 1 (no TABLE)."})
    private static void promise40_ask(Due due) {
        LeanTable none = Due.lay(FOUR + ";heard o day 1;heard m day 2");
        due.answered("ask(), no FITS", none, none.ask(), -2);
        LeanTable nobody = Due.lay(Texts.FED);
        due.answered("ask(), nobody unsure", nobody, nobody.ask(), -2);
        LeanTable one = Due.lay(Texts.FED + ";unsure a 1");
        due.answered("ask()", one, one.ask(), 0);
        due.noTable(LeanTable::ask);
    }

    @Says({"How many are left at most then; -2 likewise.", "NONE: 1 (no TABLE)."})
    private static void promise41_askLeaves(Due due) {
        LeanTable none = Due.lay(FOUR + ";heard o day 1;heard m day 2");
        due.answered("askLeaves(), no FITS", none, none.askLeaves(), -2);
        LeanTable nobody = Due.lay(Texts.FED);
        due.answered("askLeaves(), nobody unsure", nobody, nobody.askLeaves(), -2);
        LeanTable one = Due.lay(Texts.FED + ";unsure a 1");
        due.answered("askLeaves(), one of two", one, one.askLeaves(), 1);
        LeanTable sure = Due.lay(Texts.UNSURE + ";unsure a 20;unsure b 4;heard low day 1");
        due.answered("askLeaves(), two of two by a, one by b", sure, sure.askLeaves(), 1);
        due.noTable(LeanTable::askLeaves);
    }

    @Says({"The first heard, as told, that isn't so by hungers as told; -2.", "NONE: 1 (no TABLE)."})
    private static void promise42_judge(Due due) {
        String text = Texts.UNSURE + ";unsure a 20";
        LeanTable all = Due.lay(text + ";heard low day 1;heard low day 2");
        due.answered("judge(), all is so", all, all.judge(), -2);
        LeanTable order = Due.lay(text + ";heard low day 3;heard top day 60;heard top day 1");
        due.answered("judge(), the first as told, not by its day", order, order.judge(), 1);
        LeanTable first = Due.lay(text + ";heard top day 1");
        due.answered("judge(), though it fits another hunger", first, first.judge(), 0);
        LeanTable sixth = Due.lay(text + ";heard low day 1;heard low day 2;heard low day 3;heard low day 4;heard low day 5;heard mid day 6");
        due.answered("judge()", sixth, sixth.judge(), 5);
        LeanTable nothing = Due.lay(Texts.FED);
        due.answered("judge(), nothing heard", nothing, nothing.judge(), -2);
        LeanTable dead = Due.lay(Texts.DOOMED + ";heard n day 1;heard n day 2");
        due.answered("judge(), nobody lives", dead, dead.judge(), 1);
        due.noTable(LeanTable::judge);
    }

    // ---- III: COOK and GLUTTON

    @Says({"COOK and GLUTTON each give or take: both take: 0 less shame each; who takes alone has 3, the other one -1; both give: 1 each.",
        "What the cook (or ofGlutton, the glutton) has if each takes or gives, and shame is so much (0 .. 9)."})
    private static void promise43_takes(Due due) {
        LeanTable x = Due.lay(Texts.FED);
        for (int shame = 0; shame <= 9; shame++) {
            due.answered("both take", x, x.takes(shame, true, true, false), -shame);
            due.answered("both take, of the glutton", x, x.takes(shame, true, true, true), -shame);
            due.answered("the cook alone", x, x.takes(shame, true, false, false), 3);
            due.answered("the cook alone, of the glutton", x, x.takes(shame, true, false, true), -1);
            due.answered("the glutton alone", x, x.takes(shame, false, true, false), -1);
            due.answered("the glutton alone, of the glutton", x, x.takes(shame, false, true, true), 3);
            due.answered("both give", x, x.takes(shame, false, false, false), 1);
            due.answered("both give, of the glutton", x, x.takes(shame, false, false, true), 1);
        }
    }

    @Says("-100: 1 (no TABLE); 2.")
    private static void promise43_refused(Due due) {
        LeanTable x = Due.lay(Texts.FED);
        for (int shame : new int[] {-1, 10, Integer.MIN_VALUE, Integer.MAX_VALUE}) {
            due.is("takes(" + shame + ")", x.takes(shame, false, false, false), -100);
            due.is("trouble()", x.trouble(), 2);
            LeanTable none = new LeanTable();
            due.is("takes(" + shame + ")", none.takes(shame, true, true, true), -100);
            due.is("trouble()", none.trouble(), 1);
        }
        LeanTable none = new LeanTable();
        due.is("takes(0)", none.takes(0, true, true, true), -100);
        due.is("trouble()", none.trouble(), 1);
    }

    @Says({"REST: a pair by which neither could have more alone.", "How many RESTS.", "NONE: 1 (no TABLE); 2."})
    private static void promise44_rests(Due due) {
        LeanTable x = Due.lay(Texts.FED);
        int[] rests = {1, 3, 2, 2, 2, 2, 2, 2, 2, 2};
        for (int shame = 0; shame <= 9; shame++) {
            due.answered("rests(" + shame + ")", x, x.rests(shame), rests[shame]);
        }
        due.refusedBy(2, x, x::rests, 10);
        due.noTable(none -> none.rests(0));
        due.noTable(none -> none.rests(10));
    }

    @Says({"The first (giving ahead, the cook's first): 10 if the cook takes, and 1 if the glutton does; -2.", "NONE: likewise."})
    private static void promise45_rest(Due due) {
        LeanTable x = Due.lay(Texts.FED);
        due.answered("rest(0), both take", x, x.rest(0), 11);
        for (int shame = 1; shame <= 9; shame++) {
            due.answered("rest(" + shame + "), the cook gives", x, x.rest(shame), 1);
        }
        due.refusedBy(2, x, x::rest, 10);
        due.noTable(none -> none.rest(0));
        due.noTable(none -> none.rest(10));
    }

    // ---- III: FLINCH

    private static void odds(Due due, LeanTable x, int k, int n, long upper, long lower) {
        due.answered("odds(" + k + ", " + n + ", false)", x, x.odds(k, n, false), upper);
        due.answered("odds(" + k + ", " + n + ", true)", x, x.odds(k, n, true), lower);
    }

    private static void mean(Due due, LeanTable x, int n, long upper, long lower) {
        due.answered("mean(" + n + ", false)", x, x.mean(n, false), upper);
        due.answered("mean(" + n + ", true)", x, x.mean(n, true), lower);
    }

    @Says("FLINCH by chance: each DAY, as likely as told, the one who would name doesn't;")
    private static void promise46_asLikelyAsTold(Due due) {
        int[][] likely = {{0, 0, 1, 1, 1}, {1, 1, 100, 99, 100}, {37, 37, 100, 63, 100}, {50, 1, 2, 1, 2}, {99, 99, 100, 1, 100},
            {100, 1, 1, 0, 1}};
        for (int[] l : likely) {
            LeanTable x = Due.lay(APART.replace("flinch 37", "flinch " + l[0]));
            for (int n = 1; n <= 6; n++) {
                odds(due, x, 0, n, l[1], l[2]);
                odds(due, x, 1, n, l[3], l[4]);
            }
        }
    }

    @Says("then the next in SEEN hunger, of like ones the first, does (who alone lives names all the same).")
    private static void promise46_theNextInSeenHunger(Due due) {
        String always = "bowl 1 starve 99 flinch 100";
        int[] names = {0, 1, 6, 1, 7, 1, 8, 1, 10, 1};
        int[] dishes = {3, 2, 4, 1};
        String[][] people = {{"plain 5 1", "plain 9 1", "child 3 1"}, {"plain 6 1", "child 4 1", "plain 5 1"},
            {"plain 9 1", "child 4 1", "plain 5 1"}, {"plain 9 1", "plain 5 1"}};
        for (int i = 0; i < dishes.length; i++) {
            LeanTable x = Due.lay(Texts.table(always, people[i]) + Texts.names(names));
            odds(due, x, dishes[i], 1, 1, 1);
            due.answered("drawn(0, 1)", x, x.drawn(0, 1), dishes[i]);
        }
        LeanTable alone = Due.lay(Texts.DOOMED);
        odds(due, alone, 0, 1, 1, 1);
        due.answered("drawn(0, 1), alone", alone, alone.drawn(0, 1), 0);
    }

    @Says("How likely the n-th DAY's (1 .. 6) dish has a name with FLINCH, the upper WHOLE or the lower, in lowest terms (0 by 1).")
    private static void promise46_odds(Due due) {
        LeanTable x = Due.lay(SIX);
        odds(due, x, 2, 6, 99, 1_000_000_000_000L);
        odds(due, x, 2, 5, 0, 1);
        odds(due, x, 0, 6, 1, 100);
        odds(due, x, 1, 6, 989_999_999_901L, 1_000_000_000_000L);
        odds(due, x, 1, 1, 99, 100);
        LeanTable dead = Due.lay(Texts.DOOMED);
        odds(due, dead, 0, 1, 1, 1);
        odds(due, dead, 0, 2, 0, 1);
        odds(due, dead, 0, 6, 0, 1);
        dead.day();
        odds(due, dead, 0, 1, 0, 1);
    }

    @Says("-1: 1; 2.")
    private static void promise46_refused(Due due) {
        LeanTable x = Due.lay(SIX);
        due.refusedBy(1, x, k -> x.odds(k, 1, false), 3, 8);
        due.refusedBy(1, x, k -> x.odds(k, 7, true), 3);
        due.refusedBy(2, x, n -> x.odds(2, n, true), 0, 7);
        due.refusedBy(2, x, n -> x.odds(0, n, false), 0, 7);
        due.noTable(none -> none.odds(0, 1, true));
    }

    @Says("The mean of what that dish is worth (0 without a name), likewise.")
    private static void promise47_mean(Due due) {
        LeanTable x = Due.lay(SIX);
        mean(due, x, 1, 1, 20);
        mean(due, x, 5, 1, 20);
        mean(due, x, 6, 2_500_000_099L, 50_000_000_000L);
        x.value(1, 20);
        mean(due, x, 1, 397, 20);
        LeanTable eight = Due.lay(Texts.table("bowl 1 starve 200 flinch 50", "plain 9 1", "plain 6 1")
            + Texts.names(0, 1, 1, 2, 2, 3, 3, 4, 4, 5, 5, 6, 7, 7, 10, 20));
        mean(due, eight, 1, 27, 2);
        LeanTable dead = Due.lay(Texts.DOOMED.replace("worth 0", "worth 1"));
        mean(due, dead, 1, 1, 1);
        mean(due, dead, 2, 0, 1);
        mean(due, dead, 6, 0, 1);
    }

    @Says("-1: 1 (no TABLE); 2.")
    private static void promise47_refused(Due due) {
        LeanTable x = Due.lay(SIX);
        due.refusedBy(2, x, n -> x.mean(n, true), 0, 7);
        due.refusedBy(2, x, n -> x.mean(n, false), 0, 7);
        due.noTable(none -> none.mean(1, true));
        due.noTable(none -> none.mean(7, false));
    }

    @Says("By a SEED: a DRAW mod 100 each DAY: below flinch it is so (SEED becomes (75 times SEED and 74) mod 65,537).")
    private static void promise48_belowFlinchItIsSo(Due due) {
        int[][] draws = {{65536, 36}, {0, 74}, {1, 49}, {2, 24}, {873, 12}, {874, 87}};
        for (int[] d : draws) {
            LeanTable no = Due.lay(APART.replace("flinch 37", "flinch " + d[1]));
            due.answered("drawn(" + d[0] + ", 1), a DRAW as flinch isn't below it", no, no.drawn(d[0], 1), 1);
            LeanTable so = Due.lay(APART.replace("flinch 37", "flinch " + (d[1] + 1)));
            due.answered("drawn(" + d[0] + ", 1), below by one", so, so.drawn(d[0], 1), 0);
        }
        LeanTable x = Due.lay(APART.replace("flinch 37", "flinch 60"));
        int[] byDay = {1, 0, 0, 1, 0};
        for (int n = 1; n <= 5; n++) {
            due.answered("drawn(0, " + n + "), draws 74 5624 28652 51790 17641", x, x.drawn(0, n), byDay[n - 1]);
        }
    }

    @Says("Its name by a SEED (0 .. 65,536), n 1 .. 60; -2.")
    private static void promise48_drawn(Due due) {
        LeanTable x = Due.lay(APART.replace("from 11", "from 65"));
        due.answered("drawn(65536, 60), 36 each day", x, x.drawn(65536, 60), 0);
        LeanTable no = Due.lay(APART.replace("from 11", "from 65").replace("flinch 37", "flinch 36"));
        due.answered("drawn(65536, 60)", no, no.drawn(65536, 60), 1);
        due.answered("drawn(65536, 54), a has 64", no, no.drawn(65536, 54), 0);
        LeanTable never = Due.lay(Texts.FEAST.replace("flinch 50", "flinch 0"));
        int[] dishes = {1, 1, 1, 0, 0};
        for (int n = 1; n <= 5; n++) {
            due.answered("drawn(77, " + n + "), nobody flinches", never, never.drawn(77, n), dishes[n - 1]);
        }
        LeanTable dies = Due.lay(Texts.DOOMED);
        due.answered("drawn(0, 2), nobody lives", dies, dies.drawn(0, 2), -2);
        due.answered("drawn(65536, 60)", dies, dies.drawn(65536, 60), -2);
    }

    @Says("NONE: 1 (no TABLE); 2.")
    private static void promise48_refused(Due due) {
        LeanTable x = Due.lay(APART);
        due.refusedBy(2, x, seed -> x.drawn(seed, 1), 65537);
        due.refusedBy(2, x, n -> x.drawn(0, n), 0, 61);
        due.refusedBy(2, x, n -> x.drawn(65536, n), 0, 61);
        due.noTable(none -> none.drawn(0, 1));
        due.noTable(none -> none.drawn(-1, 0));
    }
}
