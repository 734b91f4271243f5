/** The edges of Term III's ACTS, UNDO and IMAGES, of Term IV, TROUBLE, and of promises 49 to 59. */
public final class EdgeActTest {
    public static void main(String[] args) {
        Edges.run(EdgeActTest.class);
    }

    // ---- acts

    @Says({"ACTS: DAY,", "DAY: what name the dish had; -2 none."})
    private static void promise49_day(Due due) {
        LeanTable x = Due.lay(Texts.DOOMED);
        due.answered("day()", x, x.day(), 0);
        due.answered("day(), none", x, x.day(), -2);
        due.is("size(8)", x.size(8), 2);
        due.is("left()", x.left(), 1);
        LeanTable feast = Due.lay(Texts.FEAST);
        int[] dishes = {1, 1, 1, 0, 0};
        for (int dish : dishes) {
            due.answered("day()", feast, feast.day(), dish);
        }
    }

    @Says("NONE: 1 (no TABLE); 3 (999 went by).")
    private static void promise49_refused(Due due) {
        LeanTable x = Due.lay(Texts.FED);
        for (int n = 1; n <= 999; n++) {
            due.answered("day() " + n, x, x.day(), 0);
        }
        due.is("size(8)", x.size(8), 999);
        due.refused("day(), 999 went by", x, x.day(), 3);
        due.is("size(8)", x.size(8), 999);
        due.yes("undo(), of day 999", x.undo());
        due.answered("day()", x, x.day(), 0);
        due.refused("day()", x, x.day(), 3);
        due.noTable(LeanTable::day);
    }

    @Says({"BID (a person to fast on the next DAY, or no more),", "BID: 1 if bidden then, else 0."})
    private static void promise50_bid(Due due) {
        LeanTable x = Due.lay(Texts.FEAST);
        for (int p = 0; p < 3; p++) {
            due.answered("bid(" + p + ")", x, x.bid(p), 1);
            due.is("person(" + p + ", 5)", x.person(p, 5), 1);
        }
        due.answered("bid(1), no more", x, x.bid(1), 0);
        due.is("person(1, 5)", x.person(1, 5), 0);
        due.is("person(0, 5)", x.person(0, 5), 1);
        due.is("person(2, 5)", x.person(2, 5), 1);
        due.is("share(0)", x.share(0), 0);
        due.yes("share(1)", x.share(1) > 0);
        x.day();
        due.answered("bid(0), behind that day anew", x, x.bid(0), 1);
    }

    @Says("NONE: 1; 5 (DEAD).")
    private static void promise50_refused(Due due) {
        LeanTable x = Due.lay(Texts.FEAST);
        due.refusedBy(1, x, x::bid, 3, 5, 32);
        due.is("size(9)", x.size(9), 0);
        due.noTable(none -> none.bid(0));
        LeanTable dead = Due.allDead();
        due.refused("bid(0), DEAD", dead, dead.bid(0), 5);
        due.is("person(0, 5)", dead.person(0, 5), 0);
        due.is("size(9)", dead.size(9), 1);
        due.refused("bid(1)", dead, dead.bid(1), 1);
    }

    @Says({"GIVE (hunger less),", "GIVE (1 .. 99): hunger then."})
    private static void promise51_give(Due due) {
        LeanTable x = Due.lay(Texts.table("bowl 1 starve 200 flinch 0", "plain 99 1", "plain 99 9", "plain 1 1") + Texts.names(0, 1));
        due.answered("give(0, 1)", x, x.give(0, 1), 98);
        due.answered("give(0, 99), 0 at least", x, x.give(0, 99), 0);
        due.answered("give(1, 99)", x, x.give(1, 99), 0);
        due.answered("give(2, 1)", x, x.give(2, 1), 0);
        due.is("person(0, 0)", x.person(0, 0), 0);
        due.is("left(), of no portions", x.left(), 0);
        due.is("seen(0)", x.seen(0), 1);
    }

    @Says("NONE: 1; 2; 5 (DEAD, or not hungry).")
    private static void promise51_refused(Due due) {
        LeanTable x = Due.lay(Texts.FEAST);
        due.refusedBy(1, x, p -> x.give(p, 1), 3, 5);
        due.refusedBy(1, x, p -> x.give(p, 100), 3);
        due.refusedBy(2, x, much -> x.give(2, much), 0, 100);
        x.give(2, 3);
        due.refused("give(2, 1), not hungry", x, x.give(2, 1), 5);
        due.refusedBy(2, x, much -> x.give(2, much), 0, 100);
        due.is("size(9)", x.size(9), 1);
        due.noTable(none -> none.give(0, 1));
        LeanTable dead = Due.allDead();
        due.refused("give(0, 1), DEAD", dead, dead.give(0, 1), 5);
        due.refused("give(0, 100)", dead, dead.give(0, 100), 2);
        due.is("person(0, 0)", dead.person(0, 0), 7);
    }

    @Says({"POUR (portions more, left),", "POUR (1 .. 99): portions left then."})
    private static void promise52_pour(Due due) {
        LeanTable x = Due.lay(Texts.FED);
        due.answered("pour(1)", x, x.pour(1), 1);
        due.answered("pour(98)", x, x.pour(98), 99);
        due.answered("left()", x, x.left(), 99);
        LeanTable y = Due.lay(Texts.FED);
        due.answered("pour(99)", y, y.pour(99), 99);
        LeanTable dead = Due.allDead();
        due.answered("pour(5), nobody lives", dead, dead.pour(5), 5);
    }

    @Says("NONE: 1 (no TABLE); 2; 3 (there would be more than 99).")
    private static void promise52_refused(Due due) {
        LeanTable x = Due.lay(Texts.FED);
        due.refusedBy(2, x, x::pour, 0, 100);
        x.pour(1);
        due.refused("pour(99), 100", x, x.pour(99), 3);
        due.refused("pour(100), a number", x, x.pour(100), 2);
        x.pour(98);
        due.refused("pour(1), 100", x, x.pour(1), 3);
        due.refused("pour(0), a number", x, x.pour(0), 2);
        due.is("left()", x.left(), 99);
        due.is("size(9)", x.size(9), 2);
        due.noTable(none -> none.pour(1));
        due.noTable(none -> none.pour(0));
    }

    @Says({"VALUE (a name is worth so much).", "VALUE (0 .. 20): what it was worth."})
    private static void promise53_value(Due due) {
        LeanTable x = Due.lay(Texts.FEAST);
        due.answered("value(2, 20)", x, x.value(2, 20), 5);
        due.answered("value(2, 0)", x, x.value(2, 0), 20);
        due.answered("value(2, 1)", x, x.value(2, 1), 0);
        due.is("name(2, 1)", x.name(2, 1), 1);
        due.is("name(1, 1)", x.name(1, 1), 3);
        LeanTable fed = Due.lay(Texts.FED);
        fed.value(0, 0);
        due.is("hungerIn(0, 1)", fed.hungerIn(0, 1), 1);
        fed.day();
        due.is("name(0, 1), behind a day too", fed.name(0, 1), 0);
    }

    @Says("NONE: 1; 2; 5 (it is).")
    private static void promise53_refused(Due due) {
        LeanTable x = Due.lay(Texts.FEAST);
        due.refusedBy(1, x, k -> x.value(k, 1), 3, 8);
        due.refusedBy(1, x, k -> x.value(k, 21), 3);
        due.refusedBy(2, x, worth -> x.value(2, worth), 21);
        due.refused("value(2, 5), it is", x, x.value(2, 5), 5);
        x.value(2, 6);
        due.refused("value(2, 6), it is", x, x.value(2, 6), 5);
        due.answered("value(2, 5), as told", x, x.value(2, 5), 6);
        due.is("size(9)", x.size(9), 2);
        due.noTable(none -> none.value(0, 1));
    }

    // ---- undoing and images

    @Says({"UNDO: the latest (16 are kept).", "UNDO: true; false: 6."})
    private static void promise54_16AreKept(Due due) {
        LeanTable x = Due.lay(Texts.FED);
        due.no("undo(), nothing", x.undo());
        due.is("trouble()", x.trouble(), 6);
        for (int i = 1; i <= 15; i++) {
            x.pour(1);
        }
        due.is("size(9)", x.size(9), 15);
        x.pour(1);
        due.is("size(9)", x.size(9), 16);
        x.pour(1);
        due.is("size(9), the first is gone", x.size(9), 16);
        for (int i = 16; i >= 1; i--) {
            due.yes("undo()", x.undo());
            due.is("trouble()", x.trouble(), 0);
            due.is("left()", x.left(), i);
            due.is("size(9)", x.size(9), i - 1);
        }
        due.no("undo()", x.undo());
        due.is("trouble()", x.trouble(), 6);
        due.is("left()", x.left(), 1);
        due.no("undo(), without a TABLE", new LeanTable().undo());
    }

    @Says("UNDO: the latest (16 are kept).")
    private static void promise54_eachActIsUndone(Due due) {
        LeanTable x = Due.lay(Texts.FEAST);
        x.bid(0);
        x.give(1, 2);
        x.pour(7);
        x.value(1, 9);
        x.day();
        due.is("person(0, 3)", x.person(0, 3), 1);
        x.undo();
        due.is("size(8)", x.size(8), 0);
        due.is("person(0, 3)", x.person(0, 3), 0);
        due.is("person(0, 5), bidden again", x.person(0, 5), 1);
        due.is("person(1, 0)", x.person(1, 0), 2);
        due.is("left()", x.left(), 7);
        due.is("name(1, 1)", x.name(1, 1), 9);
        x.undo();
        due.is("name(1, 1)", x.name(1, 1), 3);
        x.undo();
        due.is("left()", x.left(), 0);
        x.undo();
        due.is("person(1, 0)", x.person(1, 0), 4);
        x.undo();
        due.is("person(0, 5)", x.person(0, 5), 0);
        due.is("size(9)", x.size(9), 0);
        LeanTable dead = Due.allDead();
        due.yes("undo()", dead.undo());
        due.is("person(0, 4), lives again", dead.person(0, 4), 0);
        due.is("person(0, 0)", dead.person(0, 0), 4);
    }

    @Says("UNDO: the latest (16 are kept).")
    private static void promise54_whatWasRefusedIsNoAct(Due due) {
        LeanTable x = Due.lay(Texts.FEAST);
        x.pour(5);
        x.pour(99);
        x.give(0, 0);
        x.bid(9);
        x.value(0, 1);
        x.image();
        x.undo();
        due.is("left(), the latest that was", x.left(), 0);
        x.undo();
        due.is("trouble()", x.trouble(), 6);
    }

    @Says({"IMAGES: up to 3;", "An IMAGE: its number.", "NONE: 1 (no TABLE); 3."})
    private static void promise55_upToThree(Due due) {
        LeanTable x = Due.lay(Texts.FEAST);
        for (int i = 0; i < 3; i++) {
            due.is("size(10)", x.size(10), i);
            due.answered("image()", x, x.image(), i);
        }
        due.refused("image(), no room", x, x.image(), 3);
        due.is("size(10)", x.size(10), 3);
        due.is("size(9), no ACT", x.size(9), 0);
        x.back(0);
        due.refused("image(), all stay", x, x.image(), 3);
        due.noTable(LeanTable::image);
    }

    @Says({"All is as by an IMAGE (all IMAGES stay): true;", "gone back to one, nothing can be undone."})
    private static void promise56_allIsAsByAnImage(Due due) {
        LeanTable x = Due.lay(Texts.FEAST);
        x.image();
        x.bid(0);
        x.give(1, 2);
        x.pour(7);
        x.value(1, 9);
        x.image();
        x.day();
        x.image();
        int[][] want = {{6, 0, 0, 4, 0, 3, 0}, {6, 1, 0, 2, 7, 9, 0}, {9, 0, 1, 0, 0, 9, 1}};
        want[2][3] = x.person(1, 0);
        want[2][4] = x.left();
        for (int i : new int[] {1, 0, 2, 2, 1, 0}) {
            x.pour(1);
            due.yes("back(" + i + ")", x.back(i));
            due.is("trouble()", x.trouble(), 0);
            int[] got = {x.person(0, 0), x.person(0, 5), x.person(0, 3), x.person(1, 0), x.left(), x.name(1, 1), x.size(8)};
            for (int j = 0; j < got.length; j++) {
                due.is("as by " + i + ", " + j, got[j], want[i][j]);
            }
            due.is("size(9)", x.size(9), 0);
            due.is("size(10)", x.size(10), 3);
            due.no("undo()", x.undo());
            due.is("trouble()", x.trouble(), 6);
        }
        x.pour(1);
        due.is("size(9), an ACT behind it", x.size(9), 1);
        due.yes("undo()", x.undo());
    }

    @Says("false: 1.")
    private static void promise56_noneSuch(Due due) {
        LeanTable x = Due.lay(Texts.FEAST);
        due.no("back(0), no IMAGE", x.back(0));
        due.is("trouble()", x.trouble(), 1);
        x.image();
        x.pour(2);
        for (int image : new int[] {1, 2, 3, -1, Integer.MAX_VALUE, Integer.MIN_VALUE}) {
            x.left();
            due.no("back(" + image + ")", x.back(image));
            due.is("trouble()", x.trouble(), 1);
        }
        due.is("left()", x.left(), 2);
        due.is("size(9), it can be undone still", x.size(9), 1);
        x.image();
        x.image();
        due.no("back(3)", x.back(3));
        due.yes("back(2)", x.back(2));
        LeanTable none = new LeanTable();
        due.no("back(0), no TABLE", none.back(0));
        due.is("trouble()", none.trouble(), 1);
    }

    // ---- what is told

    @Says({"The i-th person, by numbers, who is DEAD.", "NoSuchElementException if there is none such."})
    private static void promise57_led(Due due) {
        LeanTable x = Due.lay(Texts.table("bowl 1 starve 5 flinch 0", "plain 0 1", "plain 90 1", "plain 0 1", "plain 3 3", "plain 99 1")
            + Texts.names(0, 1));
        due.yes("led(0) throws, nobody is", due.throwsAt(x, 0));
        x.day();
        int[] dead = {1, 3, 4};
        for (int i = 0; i < dead.length; i++) {
            due.is("led(" + i + ")", x.led(i), dead[i]);
        }
        for (int i : new int[] {3, 4, 5, -1, Integer.MIN_VALUE, Integer.MAX_VALUE}) {
            due.yes("led(" + i + ") throws", due.throwsAt(x, i));
        }
        x.undo();
        due.yes("led(0) throws, undone", due.throwsAt(x, 0));
        due.yes("led(0) throws, no TABLE", due.throwsAt(new LeanTable(), 0));
        LeanTable all = Due.allDead();
        due.is("led(0)", all.led(0), 0);
        due.yes("led(1) throws", due.throwsAt(all, 1));
    }

    @Says({"0 bowl, 1 starve, 2 flinch, 3 people, 4 names, 5 fasts as told, 6 unsure ones, 7 heard, 8 days gone by, "
        + "9 ACTS that can be undone, 10 IMAGES, 11 bytes of THE TAPE."})
    private static void promise58_size(Due due) {
        LeanTable x = Due.lay(Texts.table("bowl 20 starve 200 flinch 100", "plain 1 1", "poet 1 1", "child 1 1", "plain 1 1") + Texts.names(0, 1, 2, 1)
            + ";fast a day 1;fast b day 2;fast c day 3;unsure a 1;unsure b 2;unsure c 3;unsure d 4"
            + ";heard m day 1;heard n day 2;heard m day 3;heard m day 4;heard m day 5");
        x.day();
        x.day();
        x.bid(0);
        x.image();
        x.feed(0, 0, 0, 0, 0);
        int[] sizes = {20, 200, 100, 4, 2, 3, 4, 5, 2, 3, 1, 20};
        for (int what = 0; what < sizes.length; what++) {
            due.is("size(" + what + ")", x.size(what), sizes[what]);
        }
    }

    @Says("NONE for others; 0 for what there isn't.")
    private static void promise58_othersAndWhatThereIsnt(Due due) {
        LeanTable none = new LeanTable();
        for (int what = 0; what <= 11; what++) {
            due.is("size(" + what + "), no TABLE", none.size(what), 0);
        }
        LeanTable x = Due.lay(Texts.FED);
        for (int what = 5; what <= 11; what++) {
            due.is("size(" + what + "), told none", x.size(what), 0);
        }
        x.seen(9);
        for (int what : new int[] {12, 13, -1, 100, Integer.MAX_VALUE, Integer.MIN_VALUE}) {
            due.is("size(" + what + ")", x.size(what), -1);
            due.is("size(" + what + "), no TABLE", none.size(what), -1);
            due.is("trouble() of the call ahead", x.trouble(), 1);
        }
    }

    @Says("IV. TROUBLE of the latest call that may be refused (those of which a number is told here):")
    private static void promise59_callsWithoutANumberLeaveTroubleAlone(Due due) {
        LeanTable x = Due.lay(Texts.FED);
        for (int i = 0; i < 35; i++) {
            x.feed(0, 0, 0, 0, 0);
        }
        x.seen(9);
        due.is("feed, refused without a number", x.feed(0, 0, 0, 0, 0), -1);
        due.is("trouble()", x.trouble(), 1);
        x.fault();
        x.where();
        x.size(0);
        x.size(12);
        due.throwsAt(x, 0);
        x.trouble();
        due.is("trouble()", x.trouble(), 1);
        x.left();
        due.is("trouble(), the latest wasn't", x.trouble(), 0);
        due.throwsAt(x, 0);
        x.feed(0, 0, 0, 0, 0);
        x.size(-1);
        due.is("trouble()", x.trouble(), 0);
    }

    @Says({"0 it wasn't; 1 there is none such; 2 a number; 3 no room; 4 a FAULT; 5 not so; 6 there is none.", "TROUBLE."})
    private static void promise59_trouble(Due due) {
        LeanTable x = new LeanTable();
        due.is("trouble(), no call yet", x.trouble(), 0);
        x.namer();
        due.is("trouble()", x.trouble(), 1);
        x.table(1);
        due.is("trouble()", x.trouble(), 2);
        x.table(0);
        due.is("trouble()", x.trouble(), 4);
        Due.tell(x, Texts.FED);
        due.is("trouble()", x.trouble(), 0);
        x.pour(99);
        x.pour(1);
        due.is("trouble()", x.trouble(), 3);
        x.give(0, 1);
        due.is("trouble()", x.trouble(), 5);
        x.undo();
        due.is("trouble()", x.trouble(), 0);
        x.undo();
        due.is("trouble()", x.trouble(), 6);
        x.back(0);
        due.is("trouble()", x.trouble(), 1);
        x.image();
        x.back(0);
        due.is("trouble()", x.trouble(), 0);
    }

    @Says("The constants: `NONE = -1`: There is none; refused.")
    private static void promise1_none(Due due) {
        due.is("NONE", LeanTable.NONE, -1);
        due.is("left(), refused", new LeanTable().left(), LeanTable.NONE);
    }
}
