/** The edges of Term III's FASTS, BEST FAST, GUEST and TWO TABLES, and of promises 29 to 35, who should fast. */
public final class EdgeFastTest {
    /** That d, last of all, has two portions more and names m on day 2, c must fast, or a and b. */
    private static final String TWO_MORE = Texts.table("bowl 10 starve 90 flinch 0", "plain 0 1", "plain 0 1", "plain 1 1", "plain 29 1")
        + Texts.names(0, 10, 24, 1);
    /** Each poet, fasting on one day, names n on the next one. */
    private static final String TWO_POETS = Texts.table("bowl 9 starve 50 flinch 0", "poet 0 1", "poet 0 1") + Texts.names(0, 9, 5, 10);
    /** a is hungriest, and DEAD behind the first day if it fasts: then b names the better dish. */
    private static final String BETTER_DEAD = Texts.table("bowl 2 starve 10 flinch 0", "plain 9 2", "plain 0 1") + Texts.names(0, 5, 10, 1);

    public static void main(String[] args) {
        Edges.run(EdgeFastTest.class);
    }

    private static void fasts(Due due, LeanTable x, int k, int n, int count, int bits) {
        due.answered("fastsFor(" + k + ", " + n + ")", x, x.fastsFor(k, n), count);
        due.answered("fastsAt(" + k + ", " + n + ")", x, x.fastsAt(k, n), bits);
    }

    // ---- III: FASTS

    @Says({"III. From NOW on.", "FASTS for a name in n DAYS (1 .. 3): the fewest (one a person, a DAY) who fast besides"})
    private static void promise29_eachDayOfAPersonCountsOne(Due due) {
        LeanTable x = Due.lay(Texts.LONELY_POET.replace("from 5", "from 9"));
        fasts(due, x, 0, 1, 0, 0);
        fasts(due, x, 1, 1, -2, -2);
        fasts(due, x, 1, 2, -2, -2);
        fasts(due, x, 1, 3, 2, 1 + 32);
        x.bid(0);
        x.day();
        fasts(due, x, 1, 2, 1, 1);
        x.bid(0);
        x.day();
        fasts(due, x, 1, 1, 0, 0);
    }

    @Says("the fewest (one a person, a DAY) who fast besides")
    private static void promise29_theFewestAheadOfTheLeastBits(Due due) {
        LeanTable x = Due.lay(TWO_MORE);
        fasts(due, x, 0, 2, 1, 4);
        fasts(due, x, 1, 2, 0, 0);
    }

    @Says("(none who is DEAD, or would fast then anyway)")
    private static void promise29_whoWouldFastAnywayIsNotCounted(Due due) {
        LeanTable x = Due.lay(Texts.LONELY_POET);
        fasts(due, x, 1, 2, 1, 1);
        x.bid(0);
        fasts(due, x, 1, 2, 0, 0);
        LeanTable told = Due.lay(Texts.LONELY_POET + ";fast a day 2");
        fasts(due, told, 1, 3, 0, 0);
        LeanTable late = Due.lay(Texts.LONELY_POET + ";fast a day 1;fast a day 2");
        fasts(due, late, 0, 2, -2, -2);
        LeanTable both = Due.lay(TWO_MORE);
        both.bid(0);
        fasts(due, both, 0, 2, 1, 2);
        both.bid(2);
        fasts(due, both, 0, 2, 0, 0);
    }

    @Says("(none who is DEAD, or would fast then anyway)")
    private static void promise29_theDeadDontFast(Due due) {
        LeanTable x = Due.lay(Texts.table("bowl 9 starve 5 flinch 0", "poet 90 1", "poet 0 1") + Texts.names(0, 9, 5, 1));
        x.day();
        due.is("livingIn(0)", x.livingIn(0), 2);
        fasts(due, x, 1, 2, 1, 2);
        fasts(due, x, 1, 3, 1, 64);
        LeanTable dead = Due.allDead();
        for (int n = 1; n <= 3; n++) {
            fasts(due, dead, 0, n, -2, -2);
        }
    }

    @Says("by which the n-th DAY's dish has that name, and nobody comes to be DEAD within them:")
    private static void promise29_nobodyComesToBeDeadWithinThem(Due due) {
        LeanTable x = Due.lay(Texts.table("bowl 2 starve 10 flinch 0", "plain 8 2", "plain 9 3") + Texts.names(0, 1));
        due.is("livingIn(1), both eat one: 9 and 11", x.livingIn(1), 1);
        fasts(due, x, 0, 1, 1, 1);
        x.bid(1);
        fasts(due, x, 0, 1, -2, -2);
        LeanTable dies = Due.lay(Texts.DOOMED);
        for (int n = 1; n <= 3; n++) {
            fasts(due, dies, 0, n, -2, -2);
        }
        LeanTable better = Due.lay(BETTER_DEAD);
        fasts(due, better, 0, 2, -2, -2);
        due.is("livingIn(2), a has 10 and then 11", better.livingIn(2), 2);
        fasts(due, better, 1, 2, 1, 2);
        LeanTable one = Due.lay(Texts.table("bowl 1 starve 5 flinch 0", "plain 99 1", "plain 0 1") + Texts.names(0, 1));
        one.day();
        fasts(due, one, 0, 3, 0, 0);
    }

    @Says("of like ones the least bits (of the k-th DAY's p-th person, from 0: 5 times k and p).")
    private static void promise30_ofLikeOnesTheLeastBits(Due due) {
        LeanTable x = Due.lay(TWO_POETS);
        fasts(due, x, 1, 2, 1, 1);
        fasts(due, x, 1, 3, 1, 32);
        x.bid(0);
        fasts(due, x, 0, 2, -2, -2);
        LeanTable days = Due.lay(Texts.table("bowl 2 starve 90 flinch 0", "plain 10 1", "plain 10 1") + Texts.names(0, 1, 12, 1));
        fasts(due, days, 1, 2, 1, 1);
        fasts(due, days, 1, 3, 1, 1);
        LeanTable last = Due.lay(Texts.table("bowl 7 starve 7 flinch 0", "plain 0 1", "plain 0 1", "plain 0 1", "plain 3 4", "plain 0 2")
            + Texts.names(0, 1, 10, 1));
        due.is("livingIn(3), d dies on the 3rd day", last.livingIn(3), 31 - 8);
        fasts(due, last, 1, 3, 1, 1 << 5 * 2 + 4);
    }

    @Says({"FASTS: how many; -2 by none.", "NONE: 1; 2."})
    private static void promise29_fastsFor(Due due) {
        LeanTable x = Due.lay(TWO_POETS);
        due.answered("fastsFor(0, 1)", x, x.fastsFor(0, 1), 0);
        due.answered("fastsFor(1, 1), by none", x, x.fastsFor(1, 1), -2);
        due.answered("fastsFor(1, 3)", x, x.fastsFor(1, 3), 1);
        due.refusedBy(1, x, k -> x.fastsFor(k, 1), 2, 8);
        due.refusedBy(1, x, k -> x.fastsFor(k, 0), 2);
        due.refusedBy(2, x, n -> x.fastsFor(1, n), 0, 4);
        due.noTable(none -> none.fastsFor(0, 1));
    }

    @Says({"FASTS as bits; -2.", "NONE: 1; 2."})
    private static void promise30_fastsAt(Due due) {
        LeanTable x = Due.lay(TWO_POETS);
        due.answered("fastsAt(0, 1)", x, x.fastsAt(0, 1), 0);
        due.answered("fastsAt(1, 1), by none", x, x.fastsAt(1, 1), -2);
        due.answered("fastsAt(1, 3)", x, x.fastsAt(1, 3), 32);
        due.refusedBy(1, x, k -> x.fastsAt(k, 1), 2, 8);
        due.refusedBy(1, x, k -> x.fastsAt(k, 4), 2);
        due.refusedBy(2, x, n -> x.fastsAt(1, n), 0, 4);
        due.noTable(none -> none.fastsAt(0, 1));
    }

    // ---- III: BEST FAST

    private static void best(Due due, LeanTable x, int bits, int worth) {
        due.answered("bestFast()", x, x.bestFast(), bits);
        due.answered("bestWorth()", x, x.bestWorth(), worth);
    }

    @Says({"BEST FAST: people (none DEAD, none who would anyway) who should fast besides on the next DAY, the 1st,",
        "BEST FAST, as bits of people.", "NONE: 1 (no TABLE)."})
    private static void promise31_noneDeadNoneWhoWouldAnyway(Due due) {
        LeanTable x = Due.lay(TWO_POETS);
        best(due, x, 1, 10);
        x.bid(0);
        best(due, x, 0, 10);
        LeanTable told = Due.lay(TWO_POETS + ";fast b day 1");
        best(due, told, 0, 10);
        LeanTable later = Due.lay(TWO_POETS + ";fast b day 2");
        best(due, later, 1, 10);
        LeanTable dead = Due.allDead();
        best(due, dead, 0, 0);
        due.noTable(LeanTable::bestFast);
    }

    @Says("that the dish of the 2nd is worth most (0 without a name):")
    private static void promise31_thatTheDishOfThe2ndIsWorthMost(Due due) {
        LeanTable x = Due.lay(BETTER_DEAD);
        best(due, x, 1, 5);
        LeanTable most = Due.lay(Texts.LONELY_POET);
        most.value(1, 20);
        best(due, most, 1, 20);
        most.value(0, 20);
        best(due, most, 0, 20);
    }

    @Says("of like ones the fewest, then the least bits.")
    private static void promise31_theFewestThenTheLeastBits(Due due) {
        best(due, Due.lay(TWO_MORE), 4, 10);
        best(due, Due.lay(TWO_POETS), 1, 10);
        LeanTable none = Due.lay(TWO_POETS);
        none.value(1, 9);
        best(due, none, 0, 9);
    }

    @Says({"What the 2nd DAY's dish is worth by it.", "NONE: 1 (no TABLE)."})
    private static void promise32_bestWorth(Due due) {
        LeanTable first = Due.lay(TWO_POETS);
        due.answered("bestWorth(), no call ahead of it", first, first.bestWorth(), 10);
        LeanTable dies = Due.lay(Texts.DOOMED.replace("worth 0", "worth 1"));
        best(due, dies, 0, 0);
        LeanTable x = Due.lay(Texts.FED);
        best(due, x, 0, 1);
        x.value(0, 0);
        best(due, x, 0, 0);
        due.noTable(LeanTable::bestWorth);
    }

    // ---- III: a GUEST

    @Says("A GUEST names, eating nothing, if his SEEN hunger is more than everybody's;")
    private static void promise14_aGuestNamesIfHisIsMore(Due due) {
        LeanTable x = Due.lay(Texts.table("bowl 3 starve 90 flinch 0", "child 4 1", "plain 6 1") + Texts.names(0, 1, 7, 1, 10, 1, 11, 1));
        due.is("nameWith(10), no more than a's", x.nameWith(10), 2);
        due.is("nameWith(7), less", x.nameWith(7), 2);
        due.is("nameWith(11)", x.nameWith(11), 3);
        due.is("guestFor(3)", x.guestFor(3), 11);
        due.is("guestFor(2), has it", x.guestFor(2), -2);
        due.is("guestFor(1), a's is more", x.guestFor(1), -2);
    }

    @Says("he isn't there on any other DAY.")
    private static void promise14_aGuestIsThereOnNoOtherDay(Due due) {
        LeanTable x = Due.lay(Texts.FEAST);
        x.nameWith(999);
        x.guestFor(2);
        due.is("dish(), without him", x.dish(), 1);
        due.is("namer()", x.namer(), 2);
        due.is("dishIn(2)", x.dishIn(2), 1);
        due.is("day()", x.day(), 1);
    }

    // ---- III: TWO TABLES

    private static void two(Due due, LeanTable x, int bits, int worth) {
        due.answered("tables()", x, x.tables(), bits);
        due.answered("tablesWorth()", x, x.tablesWorth(), worth);
    }

    @Says({"TWO TABLES on the next DAY: those who live in two parts, one maybe empty, the first of them in the first one:",
        "TWO TABLES: who is at the first one, as bits (0 nobody lives).", "NONE: 1 (no TABLE)."})
    private static void promise33_thoseWhoLiveInTwoParts(Due due) {
        two(due, Due.lay(Texts.LONELY_POET), 1, 9);
        two(due, Due.allDead(), 0, 0);
        LeanTable x = Due.lay(Texts.table("bowl 2 starve 5 flinch 0", "plain 90 1", "plain 0 1", "plain 0 1") + Texts.names(0, 20, 50, 3));
        x.day();
        due.is("livingIn(0)", x.livingIn(0), 6);
        two(due, x, 2, 40);
        due.noTable(LeanTable::tables);
    }

    @Says("at each one who is there of most SEEN hunger names;")
    private static void promise33_atEachTheOneOfMostSeenHungerNames(Due due) {
        LeanTable x = Due.lay(Texts.table("bowl 2 starve 90 flinch 0", "plain 4 1", "plain 7 1", "child 4 1")
            + Texts.names(0, 9, 8, 1, 10, 3));
        two(due, x, 1, 12);
        x.value(1, 10);
        two(due, x, 3, 13);
        LeanTable between = Due.lay(Texts.table("bowl 2 starve 90 flinch 0", "plain 7 1", "plain 4 1", "child 4 1")
            + Texts.names(0, 9, 8, 1, 10, 3));
        two(due, between, 1 + 4, 12);
    }

    @Says("by which both names' worths together (0 of an empty one) are most: of like ones the least bits.")
    private static void promise33_ofLikeOnesTheLeastBits(Due due) {
        LeanTable x = Due.lay(Texts.table("bowl 2 starve 90 flinch 0", "plain 1 1", "plain 1 1", "plain 1 1", "plain 1 1", "plain 1 1")
            + Texts.names(0, 0));
        two(due, x, 1, 0);
        x.value(0, 20);
        two(due, x, 1, 40);
        LeanTable fifth = Due.lay(Texts.table("bowl 2 starve 90 flinch 0", "plain 1 1", "plain 5 1", "plain 5 1", "plain 5 1", "plain 1 1")
            + Texts.names(0, 9, 6, 0));
        two(due, fifth, 1, 9);
        LeanTable alone = Due.lay(Texts.table("bowl 2 starve 90 flinch 0", "plain 5 1", "plain 5 1", "plain 5 1", "plain 5 1", "plain 1 1")
            + Texts.names(0, 9, 6, 0));
        two(due, alone, 15, 9);
    }

    @Says({"Both names' worths together.", "NONE: 1 (no TABLE)."})
    private static void promise34_tablesWorth(Due due) {
        LeanTable x = Due.lay(Texts.FED);
        due.answered("tablesWorth(), one is empty", x, x.tablesWorth(), 1);
        x.value(0, 20);
        due.answered("tablesWorth()", x, x.tablesWorth(), 20);
        due.noTable(LeanTable::tablesWorth);
    }

    // ---- bowls

    @Says("The least bowl (1 .. 20 portions a DAY) by which nobody more is DEAD within n DAYS (0 .. 60); -2 none.")
    private static void promise35_theLeastBowl(Due due) {
        LeanTable x = Due.lay(Texts.table("bowl 7 starve 10 flinch 0", "plain 29 1") + Texts.names(0, 1));
        due.answered("bowlFor(0), nobody dies in no day", x, x.bowlFor(0), 1);
        due.answered("bowlFor(1), 30 less 20", x, x.bowlFor(1), 20);
        LeanTable more = Due.lay(Texts.table("bowl 7 starve 10 flinch 0", "plain 30 1") + Texts.names(0, 1));
        due.answered("bowlFor(1), 31 less 20", more, more.bowlFor(1), -2);
        more.pour(1);
        due.answered("bowlFor(1), one is left", more, more.bowlFor(1), 20);
        more.pour(19);
        due.answered("bowlFor(1), 20 are left", more, more.bowlFor(1), 1);
        LeanTable late = Due.lay(Texts.table("bowl 7 starve 59 flinch 0", "plain 0 2") + Texts.names(0, 1));
        due.answered("bowlFor(59), one more each day", late, late.bowlFor(59), 1);
        due.answered("bowlFor(60)", late, late.bowlFor(60), 2);
        LeanTable worthless = Due.lay(Texts.LATE);
        due.answered("bowlFor(58)", worthless, worthless.bowlFor(58), 1);
        due.answered("bowlFor(59)", worthless, worthless.bowlFor(59), -2);
        LeanTable dead = Due.allDead();
        due.answered("bowlFor(60), nobody more", dead, dead.bowlFor(60), 1);
    }

    @Says("NONE: 1 (no TABLE); 2.")
    private static void promise35_refused(Due due) {
        LeanTable x = Due.lay(Texts.FED);
        due.refusedBy(2, x, x::bowlFor, 61);
        due.noTable(none -> none.bowlFor(0));
        due.noTable(none -> none.bowlFor(61));
    }
}
