import java.util.List;
import java.util.function.IntSupplier;

/** Each promise by its number: ordinary inputs, edges, wrong inputs, with answers worked out by hand. */
public final class PromiseTest {
    private static final String HEAD = Texts.HEAD;
    private static final String SHORT = Texts.SHORT;
    private static final String FEAST = Texts.FEAST;
    private static final String DOOMED = Texts.DOOMED;
    private static final String LONELY_POET = Texts.LONELY_POET;
    private static final String UNSURE = Texts.UNSURE;

    private static final Due DUE = new Due();

    public static void main(String[] args) {
        newObject();
        feeding();
        laying();
        form();
        toldNames();
        boundsAndRoom();
        nowAndNext();
        guests();
        daysToCome();
        theDead();
        portionsLeft();
        fastsForNames();
        bestFasts();
        twoTables();
        bowls();
        unsureHungers();
        cookAndGlutton();
        flinching();
        acts();
        fasting();
        undoing();
        images();
        told();
        troubleOfAll();
        DUE.end("PromiseTest");
    }

    private static void newObject() {
        DUE.part("1 a new object");
        LeanTable x = new LeanTable();
        DUE.is("NONE", LeanTable.NONE, -1);
        DUE.is("trouble()", x.trouble(), 0);
        DUE.is("fault()", x.fault(), 0);
        DUE.is("where()", x.where(), -1);
        for (int what = 0; what < 12; what++) {
            DUE.is("size(" + what + ")", x.size(what), 0);
        }
        DUE.refused("dish()", x, x.dish(), 1);
        DUE.refused("nameWith(-1), no table ahead of a number", x, x.nameWith(-1), 1);
        DUE.refused("could()", x, x.could(), 1);
        DUE.refused("surely()", x, x.surely(), 1);
        DUE.refused("askLeaves()", x, x.askLeaves(), 1);
        DUE.refused("rest(99)", x, x.rest(99), 1);
        DUE.refused("odds(0, 9, false)", x, x.odds(0, 9, false), 1);
        DUE.refused("pour(0)", x, x.pour(0), 1);
        DUE.no("back(0)", x.back(0));
        DUE.is("trouble()", x.trouble(), 1);
    }

    private static void feeding() {
        DUE.part("2 feed");
        LeanTable x = new LeanTable();
        for (int i = 1; i <= 35; i++) {
            DUE.is("feed", x.feed(0x20202020, 0x20202020, 0x20202020, 0x20202020, 0x20202020), 20 * i);
        }
        DUE.is("feed, no room", x.feed(0, 0, 0, 0, 0), -1);
        DUE.is("size(11)", x.size(11), 700);
        DUE.is("trouble() isn't of feed", x.trouble(), 0);
        DUE.is("table(700)", x.table(700), -1);
        DUE.is("where(), the end", x.where(), 700);
        DUE.is("size(11)", x.size(11), 0);
        DUE.is("feed, room again", x.feed('a', 0, 0, 0, 0), 20);
        DUE.is("table(4), a is the lowest byte of its number", x.table(4), -1);
        DUE.is("where()", x.where(), 0);
        DUE.is("fault()", x.fault(), 1);
    }

    private static void laying() {
        DUE.part("3, 4, 5 table, fault, where");
        LeanTable x = Due.lay(SHORT);
        Due.put(x, "abc");
        DUE.refused("table(21)", x, x.table(21), 2);
        DUE.is("size(11), THE TAPE stays", x.size(11), 20);
        DUE.refused("table(-1)", x, x.table(-1), 2);
        DUE.is("fault() of the table ahead", x.fault(), 0);
        DUE.refused("table(3)", x, x.table(3), 4);
        DUE.is("where()", x.where(), 0);
        DUE.is("fault()", x.fault(), 1);
        DUE.refused("table(1), nothing on THE TAPE", x, x.table(1), 2);
        DUE.is("fault(), not of one refused by 2", x.fault(), 1);
        DUE.is("where(), the latest wasn't by 4", x.where(), -1);
        DUE.is("size(3), the TABLE stays", x.size(3), 1);
        DUE.refused("table(0), no text", x, x.table(0), 4);
        DUE.is("fault()", x.fault(), 1);
        DUE.is("where()", x.where(), 0);
        DUE.is("size(0) leaves where() alone", x.size(0), 3);
        DUE.is("where()", x.where(), 0);
        DUE.is("left()", x.left(), 0);
        DUE.is("where() behind another call", x.where(), -1);
        DUE.is("fault() stays", x.fault(), 1);
        x.pour(5);
        x.bid(0);
        x.day();
        x.image();
        DUE.is("table, anew", Due.tell(x, FEAST), 3);
        DUE.is("fault()", x.fault(), 0);
        DUE.is("left()", x.left(), 0);
        DUE.is("size(8)", x.size(8), 0);
        DUE.is("size(9)", x.size(9), 0);
        DUE.is("size(10)", x.size(10), 0);
        DUE.is("person(0, 5)", x.person(0, 5), 0);
        DUE.is("person(0, 0)", x.person(0, 0), 6);
        Due.put(x, SHORT + ";name");
        DUE.is("table, less than THE TAPE has", x.table(SHORT.length()), 1);
        DUE.is("size(11)", x.size(11), 0);
    }

    private static void form() {
        DUE.part("I form");
        DUE.good(SHORT, 1);
        DUE.good("  " + SHORT.replace(";", " ;  ") + "  ", 1);
        DUE.good(SHORT.replace("bowl 3", "bowl3").replace("hunger 9 need", "hunger9need"), 1);
        DUE.good(SHORT.replace("bowl 3", "bowl 003"), 1);
        DUE.good(SHORT.replace(" a ", " abcdefgh "), 1);
        DUE.good(SHORT.replace(" a ", " plain "), 1);
        DUE.good(SHORT.replace(" a ", " az "), 1);
        DUE.good(SHORT.replace(" a ", " day ").replace(" n ", " worth "), 1);
        DUE.fault(SHORT.replace(" a ", " abcdefghi "), 1, 38);
        DUE.fault(SHORT.replace("bowl 3", "bowl 0003"), 1, 11);
        DUE.fault(SHORT.replace("bowl 3", "bowl x"), 1, 11);
        DUE.fault(SHORT.replace("bowl 3", "bow 3"), 1, 6);
        DUE.fault("Table", 1, 0);
        DUE.fault("tab", 1, 0);
        DUE.fault("7", 1, 0);
        DUE.fault(";", 1, 0);
        DUE.fault(SHORT + ";", 1, SHORT.length() + 1);
        DUE.fault(SHORT + "  ; ", 1, SHORT.length() + 4);
        DUE.fault(SHORT + ";;", 1, SHORT.length() + 1);
        DUE.fault(SHORT + " x", 1, SHORT.length() + 1);
        DUE.fault(SHORT + " 1", 1, SHORT.length() + 1);
        DUE.fault(SHORT + "111", 1, SHORT.indexOf("worth") + 6);
        DUE.fault(SHORT + (char) 233, 1, SHORT.length());
        DUE.fault(SHORT + (char) 10, 1, SHORT.length());
        DUE.fault(SHORT + (char) 0, 1, SHORT.length());
        DUE.fault("table bowl 3 starve 9", 1, 21);
        DUE.fault(HEAD + ";person a plain hunger 9 need", 1, HEAD.length() + 29);
        DUE.fault(HEAD + ";person a rich", 1, HEAD.length() + 10);
        DUE.fault(HEAD + ";person 3", 1, HEAD.length() + 8);
        for (String word : "table person name fast unsure heard".split(" ")) {
            DUE.fault(HEAD + ";person " + word, 1, HEAD.length() + 8);
            DUE.fault(SHORT + ";fast " + word, 1, SHORT.length() + 6);
            DUE.fault(SHORT + ";heard " + word, 1, SHORT.length() + 7);
        }
        DUE.fault(SHORT + ";unsure a day 3", 1, SHORT.length() + 10);
        DUE.fault(SHORT + ";fast a 3", 1, SHORT.length() + 8);
    }

    private static void toldNames() {
        DUE.part("I names, told once and ahead");
        int end = SHORT.length();
        DUE.fault(SHORT + ";fast b day 1", 2, end + 6);
        DUE.fault(SHORT + ";fast n day 1", 2, end + 6);
        DUE.fault(SHORT + ";unsure n 1", 2, end + 8);
        DUE.fault(SHORT + ";heard a day 1", 2, end + 7);
        DUE.fault(SHORT + ";heard nn day 1", 2, end + 7);
        DUE.fault(SHORT + ";person a", 3, end + 8);
        DUE.fault(SHORT + ";person n", 3, end + 8);
        DUE.fault(SHORT + ";name a", 3, end + 6);
        DUE.fault(SHORT + ";name o from 0", 3, end + 13);
        DUE.fault(SHORT + ";name o from 000 worth 99", 3, end + 13);
        DUE.good(SHORT + ";fast a day 3;person b poet hunger 1 need 1;fast b day 3;fast a day 4", 2);
        DUE.fault(SHORT + ";fast a day 3;fast a day 03", 3, end + 25);
        DUE.fault(SHORT + ";unsure a 3;unsure a 4", 3, end + 19);
        DUE.fault(SHORT + ";name o from 3 worth 1;heard n day 3;heard o day 3", 3, end + 49);
        DUE.fault(SHORT + ";table", 3, end + 1);
        DUE.fault(SHORT + ";table bowl 99", 3, end + 1);
        DUE.fault("person", 6, 0);
        DUE.fault("  heard x;;", 6, 2);
        DUE.fault(HEAD, 6, HEAD.length());
        DUE.fault(HEAD + " ", 6, HEAD.length() + 1);
        DUE.fault(HEAD + ";name n from 0 worth 1", 6, HEAD.length() + 22);
        DUE.fault(HEAD + ";person a plain hunger 9 need 1;name n from 1 worth 1", 6, HEAD.length() + 53);
    }

    private static void boundsAndRoom() {
        DUE.part("I bounds and room");
        DUE.good("table bowl 20 starve 200 flinch 100;person a plain hunger 99 need 9;name n from 0 worth 20;"
            + "name o from 200 worth 0;fast a day 60;unsure a 99;heard o day 60", 1);
        DUE.good("table bowl 1 starve 5 flinch 0;person a child hunger 0 need 1;name n from 0 worth 0;"
            + "fast a day 1;unsure a 0;heard n day 1", 1);
        DUE.fault("table bowl 0", 4, 11);
        DUE.fault("table bowl 21", 4, 11);
        DUE.fault("table bowl 3 starve 4", 4, 20);
        DUE.fault("table bowl 3 starve 201", 4, 20);
        DUE.fault("table bowl 3 starve 5 flinch 101", 4, 29);
        DUE.fault(HEAD + ";person a plain hunger 100", 4, 53);
        DUE.fault(HEAD + ";person a plain hunger 1 need 0", 4, 60);
        DUE.fault(HEAD + ";person a plain hunger 1 need 10", 4, 60);
        int end = SHORT.length();
        DUE.fault(SHORT + ";name o from 201", 4, end + 13);
        DUE.fault(SHORT + ";name o from 1 worth 21", 4, end + 21);
        DUE.fault(SHORT + ";fast a day 0", 4, end + 12);
        DUE.fault(SHORT + ";fast a day 61", 4, end + 12);
        DUE.fault(SHORT + ";unsure a 100", 4, end + 10);
        DUE.fault(SHORT + ";heard n day 0", 4, end + 13);
        DUE.fault(SHORT + ";heard n day 61", 4, end + 13);
        StringBuilder people = new StringBuilder(SHORT);
        for (char c = 'b'; c <= 'e'; c++) {
            people.append(";person ").append(c).append(" poet hunger 1 need 1");
        }
        DUE.good(people.toString(), 5);
        DUE.fault(people + ";person a", 5, people.length() + 1);
        roomFor(SHORT, "name o% from % worth 1", 7, "name");
        roomFor(SHORT, "fast a day %", 8, "fast n");
        roomFor(people.toString(), "unsure % 7", 4, "unsure a 1");
        roomFor(SHORT, "heard n day %", 6, "heard");
    }

    /** So many LINES fit; at one more the fault is MANY at its first WORD, whatever comes behind it. */
    private static void roomFor(String text, String line, int room, String more) {
        StringBuilder full = new StringBuilder(text);
        for (int i = 1; i <= room; i++) {
            String it = line.replaceFirst("o%", "o" + (char) ('a' + i));
            full.append(';').append(line.startsWith("unsure") ? it.replace('%', (char) ('a' + i)) : it.replace("%", "" + i));
        }
        DUE.good(full.toString(), line.startsWith("unsure") ? 5 : 1);
        DUE.fault(full + ";" + more, 5, full.length() + 1);
    }

    private static void nowAndNext() {
        DUE.part("6 to 13 now and the next day");
        LeanTable x = Due.lay(FEAST);
        int[][] people = {{6, 3, 0, 0, 0, 0}, {4, 2, 1, 0, 0, 0}, {3, 2, 2, 0, 0, 0}};
        for (int p = 0; p < 3; p++) {
            for (int what = 0; what < 6; what++) {
                DUE.is("person(" + p + ", " + what + ")", x.person(p, what), people[p][what]);
            }
        }
        DUE.refused("person(3, 0)", x, x.person(3, 0), 1);
        DUE.refused("person(-1, 0)", x, x.person(-1, 0), 1);
        DUE.refused("person(0, -1)", x, x.person(0, -1), 1);
        DUE.refused("person(0, 6)", x, x.person(0, 6), 1);
        DUE.is("name(2, 0)", x.name(2, 0), 12);
        DUE.is("name(2, 1)", x.name(2, 1), 5);
        DUE.refused("name(3, 0)", x, x.name(3, 0), 1);
        DUE.refused("name(-1, 0)", x, x.name(-1, 0), 1);
        DUE.refused("name(0, 2)", x, x.name(0, 2), 1);
        DUE.refused("name(0, -1)", x, x.name(0, -1), 1);
        DUE.is("left()", x.left(), 0);
        DUE.is("trouble()", x.trouble(), 0);
        int[][] next = {{9, 1, 2}, {6, 0, 1}, {10, 1, 1}};
        for (int p = 0; p < 3; p++) {
            DUE.is("seen(" + p + ")", x.seen(p), next[p][0]);
            DUE.is("calls(" + p + ")", x.calls(p), next[p][1]);
            DUE.is("share(" + p + ")", x.share(p), next[p][2]);
        }
        DUE.refused("seen(3)", x, x.seen(3), 1);
        DUE.refused("calls(-1)", x, x.calls(-1), 1);
        DUE.refused("share(5)", x, x.share(5), 1);
        DUE.is("namer()", x.namer(), 2);
        DUE.is("dish()", x.dish(), 1);
        LeanTable like = Due.lay(HEAD + ";person a plain hunger 5 need 1;person b child hunger 2 need 1;"
            + "person c plain hunger 5 need 1;name n from 6 worth 2;name o from 0 worth 1;name p from 7 worth 3");
        DUE.is("namer(), the first of like ones", like.namer(), 0);
        DUE.is("dish(), from is no more than seen", like.dish(), 0);
        DUE.is("share(0), the first of like ones has one", like.share(0), 1);
        DUE.is("share(1), the third in order", like.share(1), 1);
        DUE.is("share(2)", like.share(2), 1);
    }

    private static void guests() {
        DUE.part("14, 15 a guest");
        LeanTable x = Due.lay(FEAST);
        DUE.is("nameWith(0)", x.nameWith(0), 1);
        DUE.is("nameWith(10), no more than cy", x.nameWith(10), 1);
        DUE.is("nameWith(12)", x.nameWith(12), 2);
        DUE.is("nameWith(999)", x.nameWith(999), 2);
        DUE.refused("nameWith(1000)", x, x.nameWith(1000), 2);
        DUE.refused("nameWith(-1)", x, x.nameWith(-1), 2);
        DUE.is("guestFor(2)", x.guestFor(2), 12);
        DUE.is("guestFor(1), has it", x.guestFor(1), -2);
        DUE.is("guestFor(0), none", x.guestFor(0), -2);
        DUE.refused("guestFor(3)", x, x.guestFor(3), 1);
        DUE.refused("guestFor(-1)", x, x.guestFor(-1), 1);
        LeanTable dead = Due.lay(DOOMED.replace("worth 0", "worth 0;name m from 200 worth 3"));
        DUE.is("nameWith(5), he isn't more", dead.nameWith(5), 0);
        dead.day();
        DUE.is("nameWith(0), nobody lives", dead.nameWith(0), 0);
        DUE.is("nameWith(200)", dead.nameWith(200), 1);
        DUE.is("guestFor(0), nobody lives", dead.guestFor(0), 0);
        DUE.is("guestFor(1)", dead.guestFor(1), 200);
    }

    private static void daysToCome() {
        DUE.part("16 to 28 days to come");
        LeanTable x = Due.lay(FEAST);
        int[] namers = {2, 2, 1, 2, 2};
        int[] dishes = {1, 1, 1, 0, 0};
        int[][] hungers = {{6, 4, 3}, {3, 3, 2}, {0, 5, 0}, {0, 1, 0}, {1, 2, 1}, {2, 3, 2}};
        for (int n = 1; n <= 5; n++) {
            DUE.is("namerIn(" + n + ")", x.namerIn(n), namers[n - 1]);
            DUE.is("dishIn(" + n + ")", x.dishIn(n), dishes[n - 1]);
        }
        for (int n = 0; n <= 5; n++) {
            for (int p = 0; p < 3; p++) {
                DUE.is("hungerIn(" + p + ", " + n + ")", x.hungerIn(p, n), hungers[n][p]);
            }
        }
        int[] hungriest = {0, 0, 1, 1, 1, 1};
        int[] uneven = {3, 1, 5, 1, 1, 1};
        int[] named = {0, 2, 2, 2, 3, 3};
        int[] worth = {0, 3, 6, 9, 10, 11};
        int[][] eaten = {{0, 0, 0}, {2, 1, 1}, {4, 1, 3}, {5, 3, 4}, {7, 4, 5}, {9, 5, 6}};
        int[][] said = {{0, 0, 0}, {0, 0, 1}, {0, 0, 2}, {0, 1, 2}, {0, 1, 3}, {0, 1, 4}};
        for (int n = 0; n <= 5; n++) {
            DUE.is("hungriestIn(" + n + ")", x.hungriestIn(n), hungriest[n]);
            DUE.is("unevenIn(" + n + ")", x.unevenIn(n), uneven[n]);
            DUE.is("named(" + n + ")", x.named(n), named[n]);
            DUE.is("worthIn(" + n + ")", x.worthIn(n), worth[n]);
            DUE.is("livingIn(" + n + ")", x.livingIn(n), 7);
            DUE.is("leftIn(" + n + ")", x.leftIn(n), 0);
            for (int p = 0; p < 3; p++) {
                DUE.is("eats(" + p + ", " + n + ")", x.eats(p, n), eaten[n][p]);
                DUE.is("says(" + p + ", " + n + ")", x.says(p, n), said[n][p]);
            }
        }
        DUE.is("firstDish(0)", x.firstDish(0), 4);
        DUE.is("firstDish(1)", x.firstDish(1), 1);
        x.value(1, 0);
        DUE.is("worthIn(1), as worth now", x.worthIn(1), 0);
        DUE.is("worthIn(2), duck, as cy has 14", x.worthIn(2), 5);
        DUE.is("size(8), no day went by", x.size(8), 0);
        daysToComeRefused(x);
    }

    private static void daysToComeRefused(LeanTable x) {
        for (int n : new int[] {-1, 61, Integer.MAX_VALUE, Integer.MIN_VALUE}) {
            DUE.refused("namerIn", x, x.namerIn(n), 2);
            DUE.refused("dishIn", x, x.dishIn(n), 2);
            DUE.refused("hungerIn", x, x.hungerIn(0, n), 2);
            DUE.refused("hungerIn", x, x.hungerIn(3, n), 1);
            DUE.refused("leftIn", x, x.leftIn(n), 2);
            DUE.refused("livingIn", x, x.livingIn(n), 2);
            DUE.refused("hungriestIn", x, x.hungriestIn(n), 2);
            DUE.refused("unevenIn", x, x.unevenIn(n), 2);
            DUE.refused("eats", x, x.eats(0, n), 2);
            DUE.refused("eats", x, x.eats(-1, n), 1);
            DUE.refused("says", x, x.says(0, n), 2);
            DUE.refused("says", x, x.says(3, n), 1);
            DUE.refused("named", x, x.named(n), 2);
            DUE.refused("worthIn", x, x.worthIn(n), 2);
            DUE.refused("deadIn", x, x.deadIn(n), 1);
            DUE.refused("firstDish", x, x.firstDish(n), 1);
        }
        DUE.refused("namerIn(0)", x, x.namerIn(0), 2);
        DUE.refused("dishIn(0)", x, x.dishIn(0), 2);
        DUE.yes("namerIn(60)", x.namerIn(60) >= -2 && x.trouble() == 0);
        DUE.yes("hungerIn(0, 60)", x.hungerIn(0, 60) >= 0 && x.trouble() == 0);
    }

    private static void theDead() {
        DUE.part("II the dead");
        LeanTable x = Due.lay(DOOMED);
        DUE.is("deadIn(0)", x.deadIn(0), 1);
        DUE.is("livingIn(1)", x.livingIn(1), 0);
        DUE.is("hungriestIn(1)", x.hungriestIn(1), -2);
        DUE.is("unevenIn(1)", x.unevenIn(1), 0);
        DUE.is("namerIn(2)", x.namerIn(2), -2);
        DUE.is("dishIn(2)", x.dishIn(2), -2);
        DUE.is("worthIn(60)", x.worthIn(60), 0);
        DUE.is("hungerIn(0, 60), it stays", x.hungerIn(0, 60), 7);
        DUE.is("leftIn(60), left as ever", x.leftIn(60), 59);
        DUE.is("day()", x.day(), 0);
        DUE.is("deadIn(0), now", x.deadIn(0), 0);
        DUE.is("seen(0)", x.seen(0), -2);
        DUE.is("calls(0)", x.calls(0), -2);
        DUE.is("namer()", x.namer(), -2);
        DUE.is("dish()", x.dish(), -2);
        DUE.is("share(0)", x.share(0), 0);
        DUE.is("person(0, 4)", x.person(0, 4), 1);
        DUE.is("led(0)", x.led(0), 0);
        DUE.yes("led(1) throws", DUE.throwsAt(x, 1));
        DUE.is("day(), nothing is named", x.day(), -2);
        DUE.is("left()", x.left(), 1);
        DUE.refused("bid(0)", x, x.bid(0), 5);
        DUE.refused("give(0, 1)", x, x.give(0, 1), 5);
        DUE.refused("give(0, 0), a number ahead of it", x, x.give(0, 0), 2);
        LeanTable late = Due.lay("table bowl 1 starve 59 flinch 0;person a plain hunger 0 need 1;name n from 0 worth 0;"
            + "name m from 60 worth 0");
        DUE.is("deadIn(0), hunger 60 on day 60", late.deadIn(0), 60);
        DUE.is("firstDish(1), on day 60", late.firstDish(1), 60);
        DUE.is("firstDish(0)", late.firstDish(0), 1);
        late.give(0, 1);
        DUE.refused("give(0, 1), not hungry", late, late.give(0, 1), 5);
        LeanTable later = Due.lay("table bowl 1 starve 60 flinch 0;person a plain hunger 0 need 1;name n from 0 worth 0;"
            + "name m from 61 worth 0");
        DUE.is("deadIn(0), not within 60", later.deadIn(0), -2);
        DUE.is("firstDish(1), not within 60", later.firstDish(1), -2);
        LeanTable edge = Due.lay("table bowl 1 starve 5 flinch 0;person a plain hunger 99 need 1;person b plain hunger 4 need 1;"
            + "person c plain hunger 98 need 1;name n from 0 worth 1");
        DUE.is("person(0, 4), lives ahead of a day", edge.person(0, 4), 0);
        DUE.is("deadIn(1), hunger as starve on day 1", edge.deadIn(1), -2);
        DUE.is("livingIn(1)", edge.livingIn(1), 2);
        edge.day();
        DUE.is("led(0)", edge.led(0), 0);
        DUE.is("led(1)", edge.led(1), 2);
        DUE.yes("led(2) throws", DUE.throwsAt(edge, 2));
        DUE.yes("led(-1) throws", DUE.throwsAt(edge, -1));
        DUE.yes("led(MIN) throws", DUE.throwsAt(edge, Integer.MIN_VALUE));
    }

    private static void portionsLeft() {
        DUE.part("II portions, round by round");
        LeanTable x = Due.lay("table bowl 20 starve 99 flinch 0;person a plain hunger 1 need 1;person b plain hunger 6 need 1;"
            + "name n from 0 worth 3");
        DUE.is("share(0), 2 hunger", x.share(0), 1);
        DUE.is("share(1), 7 hunger", x.share(1), 3);
        DUE.is("leftIn(1)", x.leftIn(1), 16);
        DUE.is("leftIn(2), 1 each", x.leftIn(2), 34);
        DUE.is("leftIn(6), 99 portions and 2 are eaten", x.leftIn(6), 97);
        DUE.is("leftIn(7)", x.leftIn(7), 97);
        x.value(0, 0);
        DUE.is("share(0), worth nothing: every other portion", x.share(0), 10);
        DUE.is("share(1)", x.share(1), 10);
        DUE.is("leftIn(1)", x.leftIn(1), 0);
        DUE.is("pour(90)", x.pour(90), 90);
        DUE.is("share(1), 99 at most", x.share(1), 50);
        DUE.is("share(0)", x.share(0), 49);
        LeanTable nobody = Due.lay(DOOMED.replace("bowl 1", "bowl 20"));
        DUE.is("leftIn(60), 99 at most", nobody.leftIn(60), 99);
    }

    private static void fastsForNames() {
        DUE.part("29, 30 fasts for a name");
        LeanTable x = Due.lay(FEAST);
        DUE.is("fastsFor(1, 1)", x.fastsFor(1, 1), 0);
        DUE.is("fastsAt(1, 1)", x.fastsAt(1, 1), 0);
        DUE.is("fastsFor(0, 1)", x.fastsFor(0, 1), -2);
        DUE.is("fastsAt(0, 1)", x.fastsAt(0, 1), -2);
        DUE.is("fastsFor(2, 2)", x.fastsFor(2, 2), 1);
        DUE.is("fastsAt(2, 2)", x.fastsAt(2, 2), 1);
        DUE.refused("fastsFor(3, 0), the name ahead", x, x.fastsFor(3, 0), 1);
        DUE.refused("fastsAt(-1, 1)", x, x.fastsAt(-1, 1), 1);
        DUE.refused("fastsFor(0, 0)", x, x.fastsFor(0, 0), 2);
        DUE.refused("fastsAt(0, 4)", x, x.fastsAt(0, 4), 2);
        LeanTable poet = Due.lay(LONELY_POET);
        DUE.is("fastsFor(1, 1)", poet.fastsFor(1, 1), -2);
        DUE.is("fastsAt(1, 2)", poet.fastsAt(1, 2), 1);
        DUE.is("fastsFor(1, 3)", poet.fastsFor(1, 3), 1);
        DUE.is("fastsAt(1, 3), on the 2nd", poet.fastsAt(1, 3), 32);
        LeanTable kept = Due.lay("table bowl 2 starve 10 flinch 0;person a plain hunger 8 need 2;"
            + "person b plain hunger 9 need 3;name n from 0 worth 1");
        DUE.is("fastsFor(0, 1), that b lives", kept.fastsFor(0, 1), 1);
        DUE.is("fastsAt(0, 1)", kept.fastsAt(0, 1), 1);
        kept.bid(0);
        DUE.is("fastsFor(0, 1), a would anyway", kept.fastsFor(0, 1), 0);
        kept.bid(1);
        DUE.is("fastsFor(0, 1), b would die", kept.fastsFor(0, 1), -2);
        LeanTable told = Due.lay(LONELY_POET + ";fast a day 1");
        DUE.is("fastsFor(1, 2), as told", told.fastsFor(1, 2), 0);
        LeanTable dead = Due.lay(DOOMED);
        DUE.is("fastsFor(0, 1), he dies", dead.fastsFor(0, 1), -2);
        dead.day();
        DUE.is("fastsAt(0, 3), nobody lives", dead.fastsAt(0, 3), -2);
    }

    private static void bestFasts() {
        DUE.part("31, 32 best fast");
        LeanTable x = Due.lay(FEAST);
        DUE.is("bestFast()", x.bestFast(), 1);
        DUE.is("bestWorth()", x.bestWorth(), 5);
        x.bid(0);
        DUE.is("bestFast(), ann would anyway", x.bestFast(), 0);
        DUE.is("bestWorth()", x.bestWorth(), 5);
        LeanTable poet = Due.lay(LONELY_POET);
        DUE.is("bestFast(), the fewest", poet.bestFast(), 0);
        DUE.is("bestWorth()", poet.bestWorth(), 9);
        poet.value(1, 20);
        DUE.is("bestFast()", poet.bestFast(), 1);
        DUE.is("bestWorth()", poet.bestWorth(), 20);
        LeanTable two = Due.lay("table bowl 9 starve 50 flinch 0;person a poet hunger 0 need 1;person b poet hunger 0 need 1;"
            + "name n from 0 worth 9;name m from 5 worth 10");
        DUE.is("bestFast(), the least bits", two.bestFast(), 1);
        two.bid(0);
        DUE.is("bestFast()", two.bestFast(), 0);
        // That d, last of all, has two portions more, c must leave them, or a and b.
        LeanTable three = Due.lay("table bowl 10 starve 90 flinch 0;person a plain hunger 0 need 1;person b plain hunger 0 need 1;"
            + "person c plain hunger 1 need 1;person d plain hunger 29 need 1;name n from 0 worth 10;name m from 24 worth 1");
        DUE.is("bestFast(), the fewest ahead of the least bits", three.bestFast(), 4);
        DUE.is("bestWorth()", three.bestWorth(), 10);
        LeanTable dead = Due.lay(DOOMED);
        DUE.is("bestFast(), no name then", dead.bestFast(), 0);
        DUE.is("bestWorth()", dead.bestWorth(), 0);
    }

    private static void twoTables() {
        DUE.part("33, 34 two tables");
        LeanTable x = Due.lay(FEAST);
        DUE.is("tables(), broth at both", x.tables(), 1);
        DUE.is("tablesWorth()", x.tablesWorth(), 6);
        x.value(0, 10);
        DUE.is("tables(), turnip by bo alone", x.tables(), 5);
        DUE.is("tablesWorth()", x.tablesWorth(), 13);
        LeanTable one = Due.lay(LONELY_POET);
        DUE.is("tables(), one empty", one.tables(), 1);
        DUE.is("tablesWorth()", one.tablesWorth(), 9);
        LeanTable none = Due.lay(DOOMED);
        none.value(0, 7);
        none.day();
        DUE.is("tables(), 7 less 7 lives", none.tables(), 1);
        LeanTable dead = Due.lay(DOOMED);
        dead.day();
        DUE.is("tables(), nobody lives", dead.tables(), 0);
        DUE.is("tablesWorth()", dead.tablesWorth(), 0);
        LeanTable later = Due.lay("table bowl 1 starve 5 flinch 0;person a plain hunger 90 need 1;person b plain hunger 0 need 1;"
            + "person c plain hunger 0 need 2;name n from 0 worth 1");
        later.day();
        DUE.is("tables(), the first of those who live", later.tables(), 2);
        DUE.is("tablesWorth()", later.tablesWorth(), 2);
    }

    private static void bowls() {
        DUE.part("35 bowls");
        LeanTable x = Due.lay("table bowl 1 starve 10 flinch 0;person a plain hunger 9 need 4;person b plain hunger 0 need 1;"
            + "name n from 0 worth 1");
        DUE.is("bowlFor(0)", x.bowlFor(0), 1);
        DUE.is("bowlFor(1), a b a b a", x.bowlFor(1), 4);
        x.bid(1);
        DUE.is("bowlFor(1), a alone eats", x.bowlFor(1), 3);
        x.bid(0);
        DUE.is("bowlFor(1), a fasts", x.bowlFor(1), -2);
        LeanTable most = Due.lay("table bowl 1 starve 10 flinch 0;person a plain hunger 29 need 1;name n from 0 worth 1");
        DUE.is("bowlFor(1), 30 less 20", most.bowlFor(1), 20);
        DUE.is("bowlFor(1), 31 less 20", Due.lay("table bowl 1 starve 10 flinch 0;person a plain hunger 30 need 1;"
            + "name n from 0 worth 1").bowlFor(1), -2);
        DUE.refused("bowlFor(61)", x, x.bowlFor(61), 2);
        DUE.refused("bowlFor(-1)", x, x.bowlFor(-1), 2);
        LeanTable dead = Due.lay(DOOMED);
        DUE.is("bowlFor(1)", dead.bowlFor(1), -2);
        dead.day();
        DUE.is("bowlFor(60), nobody more", dead.bowlFor(60), 1);
    }

    private static void unsureHungers() {
        DUE.part("36 to 42 unsure hungers");
        LeanTable x = Due.lay(UNSURE + ";unsure a 10;unsure b 20;heard mid day 1");
        unsureAre(x, new int[] {1}, 1, 1, 0, 1, 0);
        x.give(0, 5);
        x.day();
        x.bid(1);
        unsureAre(x, new int[] {1}, 1, 1, 0, 1, 0);
        unsureAre(Due.lay(UNSURE + ";unsure a 10;unsure b 20;heard top day 1"), new int[] {2, 3}, 3, 2, 0, 1, 0);
        unsureAre(Due.lay(UNSURE + ";unsure b 20;unsure a 10;heard top day 1"), new int[] {1, 3}, 3, 1, 1, 1, 0);
        unsureAre(Due.lay(UNSURE + ";unsure a 10;unsure b 20"), new int[] {0, 1, 2, 3}, 3, 0, 0, 2, -2);
        unsureAre(Due.lay(UNSURE + ";heard low day 1"), new int[] {0}, 0, 0, -2, -2, -2);
        unsureAre(Due.lay(UNSURE + ";heard low day 1;heard top day 9;heard mid day 2"), new int[] {}, 0, 0, -2, -2, 1);
        unsureAre(Due.lay(UNSURE + ";unsure a 4;heard top day 1"), new int[] {}, 0, 0, -2, -2, 0);
        unsureAre(Due.lay(DOOMED + ";unsure x 0;heard n day 2"), new int[] {1}, 1, 1, 0, 1, 0);
        unsureAre(Due.lay(FEAST), new int[] {0}, 0, 0, 0, 1, -2);
    }

    private static void unsureAre(LeanTable x, int[] fits, int could, int surely, int ask, int leaves, int judge) {
        DUE.is("fits()", x.fits(), fits.length);
        for (int i = 0; i < fits.length; i++) {
            DUE.is("fitAt(" + i + ")", x.fitAt(i), fits[i]);
        }
        DUE.refused("fitAt(" + fits.length + ")", x, x.fitAt(fits.length), 1);
        DUE.refused("fitAt(-1)", x, x.fitAt(-1), 1);
        DUE.refused("fitAt(MAX)", x, x.fitAt(Integer.MAX_VALUE), 1);
        DUE.is("could()", x.could(), could);
        DUE.is("surely()", x.surely(), surely);
        DUE.is("ask()", x.ask(), ask);
        DUE.is("askLeaves()", x.askLeaves(), leaves);
        DUE.is("judge()", x.judge(), judge);
        DUE.is("trouble()", x.trouble(), 0);
    }

    private static void cookAndGlutton() {
        DUE.part("43, 44, 45 cook and glutton");
        LeanTable x = Due.lay(SHORT);
        for (int shame = 0; shame <= 9; shame++) {
            for (int of = 0; of < 2; of++) {
                boolean glutton = of == 1;
                DUE.is("takes, both", x.takes(shame, true, true, glutton), -shame);
                DUE.is("takes, cook", x.takes(shame, true, false, glutton), glutton ? -1 : 3);
                DUE.is("takes, glutton", x.takes(shame, false, true, glutton), glutton ? 3 : -1);
                DUE.is("takes, nobody", x.takes(shame, false, false, glutton), 1);
            }
            DUE.is("rests(" + shame + ")", x.rests(shame), shame == 0 ? 1 : shame == 1 ? 3 : 2);
            DUE.is("rest(" + shame + ")", x.rest(shame), shame == 0 ? 11 : 1);
        }
        for (int shame : new int[] {-1, 10}) {
            DUE.is("takes", x.takes(shame, false, false, false), -100);
            DUE.is("trouble()", x.trouble(), 2);
            DUE.refused("rests", x, x.rests(shame), 2);
            DUE.refused("rest", x, x.rest(shame), 2);
        }
        LeanTable none = new LeanTable();
        DUE.is("takes, no TABLE", none.takes(10, false, false, false), -100);
        DUE.is("trouble()", none.trouble(), 1);
        DUE.refused("rests", none, none.rests(-1), 1);
    }

    private static void flinching() {
        DUE.part("46, 47, 48 who flinches");
        LeanTable x = Due.lay(FEAST.replace("flinch 50", "flinch 25"));
        fraction("odds(1, 1)", x.odds(1, 1, false), x.odds(1, 1, true), 1, 1);
        fraction("odds(2, 1)", x.odds(2, 1, false), x.odds(2, 1, true), 0, 1);
        fraction("odds(1, 2)", x.odds(1, 2, false), x.odds(1, 2, true), 3, 4);
        fraction("odds(0, 2)", x.odds(0, 2, false), x.odds(0, 2, true), 1, 4);
        fraction("mean(1)", x.mean(1, false), x.mean(1, true), 3, 1);
        fraction("mean(2)", x.mean(2, false), x.mean(2, true), 5, 2);
        DUE.refused("odds(3, 1)", x, x.odds(3, 1, false), 1);
        DUE.refused("odds(-1, 9)", x, x.odds(-1, 9, true), 1);
        DUE.refused("odds(0, 0)", x, x.odds(0, 0, false), 2);
        DUE.refused("odds(0, 7)", x, x.odds(0, 7, true), 2);
        DUE.refused("mean(0)", x, x.mean(0, false), 2);
        DUE.refused("mean(7)", x, x.mean(7, true), 2);
        long sum = x.odds(0, 6, true);
        DUE.yes("odds(0, 6), a lower WHOLE of 100 to the 6th", sum > 0 && 1_000_000_000_000L % sum == 0 && x.trouble() == 0);
        LeanTable dead = Due.lay(DOOMED);
        fraction("odds(0, 1), alone names all the same", dead.odds(0, 1, false), dead.odds(0, 1, true), 1, 1);
        fraction("odds(0, 2), nothing is named", dead.odds(0, 2, false), dead.odds(0, 2, true), 0, 1);
        fraction("mean(2)", dead.mean(2, false), dead.mean(2, true), 0, 1);
        LeanTable half = Due.lay(FEAST);
        DUE.is("drawn(0, 1)", half.drawn(0, 1), 1);
        DUE.is("drawn(0, 2), draws 74 and 5624", half.drawn(0, 2), 0);
        DUE.is("drawn(2, 2), draws 224 and 16874", half.drawn(2, 2), 1);
        DUE.is("drawn(1, 2), draws 149 and 11249", half.drawn(1, 2), 0);
        DUE.is("drawn(0, 60)", half.drawn(0, 60) >= 0 ? 1 : 0, 1);
        DUE.is("drawn(65536, 2), draws 65536 and 65536 again", half.drawn(65536, 2), 0);
        DUE.is("drawn(5, 2), nobody lives", dead.drawn(5, 2), -2);
        DUE.refused("drawn(65537, 1)", half, half.drawn(65537, 1), 2);
        DUE.refused("drawn(-1, 1)", half, half.drawn(-1, 1), 2);
        DUE.refused("drawn(0, 0)", half, half.drawn(0, 0), 2);
        DUE.refused("drawn(0, 61)", half, half.drawn(0, 61), 2);
        LeanTable exact = Due.lay("table bowl 1 starve 90 flinch 74;person a plain hunger 9 need 1;person b plain hunger 5 need 1;"
            + "person c plain hunger 5 need 2;name n from 0 worth 1;name m from 7 worth 2;name o from 10 worth 5");
        DUE.is("drawn(0, 1), 74 isn't below 74", exact.drawn(0, 1), 2);
        DUE.is("drawn(2, 1), 24 is", exact.drawn(2, 1), 1);
        fraction("odds(1, 1)", exact.odds(1, 1, false), exact.odds(1, 1, true), 37, 50);
        fraction("mean(1), 2 by 74 and 5 by 26", exact.mean(1, false), exact.mean(1, true), 139, 50);
        LeanTable never = Due.lay(FEAST.replace("flinch 50", "flinch 0"));
        for (int n = 1; n <= 60; n++) {
            DUE.is("drawn without flinch", never.drawn(77, n), never.dishIn(n));
        }
    }

    private static void fraction(String call, long upper, long lower, long wantUpper, long wantLower) {
        DUE.is(call + ", upper", upper, wantUpper);
        DUE.is(call + ", lower", lower, wantLower);
    }

    private static void acts() {
        DUE.part("49 to 53 acts");
        LeanTable x = Due.lay(FEAST);
        DUE.is("bid(1)", x.bid(1), 1);
        DUE.is("person(1, 5)", x.person(1, 5), 1);
        DUE.is("bid(1)", x.bid(1), 0);
        DUE.is("person(1, 5)", x.person(1, 5), 0);
        DUE.refused("bid(3)", x, x.bid(3), 1);
        DUE.refused("bid(-1)", x, x.bid(-1), 1);
        DUE.is("give(0, 2)", x.give(0, 2), 4);
        DUE.is("give(0, 99)", x.give(0, 99), 0);
        DUE.refused("give(0, 1), not hungry", x, x.give(0, 1), 5);
        DUE.refused("give(1, 0)", x, x.give(1, 0), 2);
        DUE.refused("give(1, 100)", x, x.give(1, 100), 2);
        DUE.refused("give(3, 0)", x, x.give(3, 0), 1);
        DUE.is("pour(99)", x.pour(99), 99);
        DUE.refused("pour(1)", x, x.pour(1), 3);
        DUE.refused("pour(100)", x, x.pour(100), 2);
        DUE.refused("pour(0)", x, x.pour(0), 2);
        DUE.is("value(1, 20)", x.value(1, 20), 3);
        DUE.is("name(1, 1)", x.name(1, 1), 20);
        DUE.is("name(1, 0)", x.name(1, 0), 8);
        DUE.refused("value(1, 20), it is", x, x.value(1, 20), 5);
        DUE.refused("value(1, 21)", x, x.value(1, 21), 2);
        DUE.refused("value(1, -1)", x, x.value(1, -1), 2);
        DUE.refused("value(3, 21)", x, x.value(3, 21), 1);
        DUE.is("value(1, 0)", x.value(1, 0), 20);
        DUE.is("size(9), none of the refused", x.size(9), 7);
        LeanTable y = Due.lay(FEAST);
        int[] dishes = {1, 1, 1, 0, 0};
        for (int n = 0; n < 5; n++) {
            DUE.is("day()", y.day(), dishes[n]);
            DUE.is("size(8)", y.size(8), n + 1);
        }
        DUE.is("person(1, 0)", y.person(1, 0), 3);
        LeanTable long999 = Due.lay(LONELY_POET);
        for (int i = 0; i < 999; i++) {
            long999.day();
        }
        DUE.is("size(8)", long999.size(8), 999);
        DUE.refused("day(), 999 went by", long999, long999.day(), 3);
    }

    private static void fasting() {
        DUE.part("II fasting, told and bidden");
        LeanTable x = Due.lay(FEAST);
        x.bid(0);
        DUE.is("share(0), bidden", x.share(0), 0);
        DUE.is("share(1)", x.share(1), 2);
        DUE.is("hungerIn(0, 1)", x.hungerIn(0, 1), 9);
        DUE.is("eats(0, 2), 12 by 5: for the next day alone", x.eats(0, 2), 3);
        x.day();
        DUE.is("person(0, 3)", x.person(0, 3), 1);
        DUE.is("person(0, 5)", x.person(0, 5), 0);
        DUE.is("dish(), ann has 12", x.dish(), 2);
        x.day();
        DUE.is("person(0, 3)", x.person(0, 3), 0);
        DUE.is("person(1, 3), as told", x.person(1, 3), 1);
        LeanTable poet = Due.lay("table bowl 9 starve 90 flinch 0;person a poet hunger 0 need 1;name n from 0 worth 9;"
            + "fast a day 1;fast a day 2;fast a day 3;fast a day 5");
        int[] seen = {1, 5, 9, 13, 1, 5, 1};
        int[] fasted = {0, 1, 2, 3, 0, 1, 0};
        for (int n = 0; n < 7; n++) {
            DUE.is("seen(0) ahead of day " + (n + 1), poet.seen(0), seen[n]);
            DUE.is("person(0, 3) ahead of day " + (n + 1), poet.person(0, 3), fasted[n]);
            poet.day();
        }
        LeanTable plain = Due.lay("table bowl 9 starve 90 flinch 0;person a plain hunger 0 need 1;person b child hunger 0 need 1;"
            + "name n from 0 worth 9;fast a day 1;fast b day 1");
        plain.day();
        DUE.is("seen(0), no poet", plain.seen(0), 2);
        DUE.is("seen(1)", plain.seen(1), 4);
        DUE.is("left(), nobody ate", plain.left(), 9);
        DUE.is("namer(), fasting or not", plain.namer(), 1);
    }

    private static void undoing() {
        DUE.part("54 undo");
        LeanTable x = Due.lay(FEAST);
        DUE.no("undo()", x.undo());
        DUE.is("trouble()", x.trouble(), 6);
        x.value(0, 9);
        x.bid(1);
        x.give(0, 1);
        x.pour(3);
        x.day();
        DUE.is("size(9)", x.size(9), 5);
        DUE.yes("undo()", x.undo());
        DUE.is("trouble()", x.trouble(), 0);
        DUE.is("size(8)", x.size(8), 0);
        DUE.is("person(1, 5)", x.person(1, 5), 1);
        DUE.is("person(1, 3)", x.person(1, 3), 0);
        DUE.is("left()", x.left(), 3);
        x.undo();
        DUE.is("left()", x.left(), 0);
        x.undo();
        DUE.is("person(0, 0)", x.person(0, 0), 6);
        x.undo();
        DUE.is("person(1, 5)", x.person(1, 5), 0);
        DUE.is("name(0, 1)", x.name(0, 1), 9);
        DUE.yes("undo()", x.undo());
        DUE.is("name(0, 1)", x.name(0, 1), 1);
        DUE.no("undo()", x.undo());
        for (int i = 1; i <= 20; i++) {
            x.pour(1);
            DUE.is("size(9)", x.size(9), Math.min(i, 16));
        }
        for (int i = 1; i <= 16; i++) {
            DUE.yes("undo()", x.undo());
            DUE.is("left()", x.left(), 20 - i);
        }
        DUE.no("undo(), 16 are kept", x.undo());
        DUE.is("left()", x.left(), 4);
        LeanTable dead = Due.lay(DOOMED);
        dead.day();
        dead.undo();
        DUE.is("person(0, 4), lives again", dead.person(0, 4), 0);
    }

    private static void images() {
        DUE.part("55, 56 images");
        LeanTable x = Due.lay(FEAST);
        DUE.no("back(0)", x.back(0));
        DUE.is("trouble()", x.trouble(), 1);
        DUE.is("image()", x.image(), 0);
        x.bid(0);
        x.value(0, 9);
        DUE.is("image()", x.image(), 1);
        x.day();
        x.pour(7);
        DUE.is("image()", x.image(), 2);
        DUE.refused("image()", x, x.image(), 3);
        DUE.is("size(10)", x.size(10), 3);
        DUE.is("size(9), images are no acts", x.size(9), 4);
        DUE.yes("back(1)", x.back(1));
        DUE.is("trouble()", x.trouble(), 0);
        DUE.is("person(0, 5)", x.person(0, 5), 1);
        DUE.is("name(0, 1)", x.name(0, 1), 9);
        DUE.is("size(8)", x.size(8), 0);
        DUE.is("size(9)", x.size(9), 0);
        DUE.is("size(10), all stay", x.size(10), 3);
        DUE.no("undo()", x.undo());
        x.give(0, 3);
        DUE.yes("back(2)", x.back(2));
        DUE.is("size(8)", x.size(8), 1);
        DUE.yes("left() has 7", x.left() >= 7);
        DUE.yes("back(0)", x.back(0));
        DUE.is("person(0, 0)", x.person(0, 0), 6);
        DUE.is("name(0, 1)", x.name(0, 1), 1);
        DUE.no("back(3)", x.back(3));
        DUE.no("back(-1)", x.back(-1));
        x.pour(1);
        x.undo();
        DUE.is("size(10), undoing leaves them", x.size(10), 3);
    }

    /** Every call that may be refused, and isn't, says so. */
    private static void troubleOfAll() {
        DUE.part("59 trouble of a call that isn't refused");
        LeanTable x = Due.lay(FEAST);
        List<IntSupplier> calls = List.of(() -> x.person(0, 0), () -> x.person(0, 1), () -> x.person(0, 2),
            () -> x.person(0, 3), () -> x.person(0, 4), () -> x.person(0, 5), () -> x.name(0, 0), () -> x.name(0, 1), x::left,
            () -> x.seen(0), () -> x.calls(0), x::namer, x::dish, () -> x.share(0), () -> x.nameWith(0), () -> x.guestFor(0),
            () -> x.guestFor(2), () -> x.namerIn(1), () -> x.dishIn(1), () -> x.hungerIn(0, 0), () -> x.leftIn(0),
            () -> x.livingIn(0), () -> x.hungriestIn(0), () -> x.unevenIn(0), () -> x.deadIn(0), () -> x.eats(0, 0),
            () -> x.says(0, 0), () -> x.firstDish(0), () -> x.firstDish(2), () -> x.named(0), () -> x.worthIn(0),
            () -> x.fastsFor(0, 1), () -> x.fastsAt(0, 1), x::bestFast, x::bestWorth, x::tables, x::tablesWorth,
            () -> x.bowlFor(0), x::fits, () -> x.fitAt(0), x::could, x::surely, x::ask, x::askLeaves, x::judge,
            () -> x.takes(0, true, true, true), () -> x.rests(0), () -> x.rest(0), () -> (int) x.odds(0, 1, true),
            () -> (int) x.mean(1, true), () -> x.drawn(0, 1), () -> x.give(0, 1), () -> x.pour(1), () -> x.value(0, 7),
            () -> x.bid(0), x::day, x::image, () -> x.undo() ? 1 : 0, () -> x.back(0) ? 1 : 0);
        for (int i = 0; i < calls.size(); i++) {
            DUE.refused("seen(9)", x, x.seen(9), 1);
            calls.get(i).getAsInt();
            DUE.is("trouble() behind call " + i, x.trouble(), 0);
        }
        x.seen(9);
        Due.tell(x, DOOMED);
        DUE.is("trouble() behind table", x.trouble(), 0);
        x.seen(9);
        x.deadIn(0);
        DUE.is("trouble() behind deadIn", x.trouble(), 0);
        x.seen(9);
        x.bowlFor(60);
        DUE.is("trouble() behind bowlFor", x.trouble(), 0);
    }

    private static void told() {
        DUE.part("57, 58, 59 what is told");
        LeanTable x = Due.lay(FEAST);
        int[] sizes = {4, 30, 50, 3, 3, 1, 1, 2, 0, 0, 0, 0};
        for (int what = 0; what < 12; what++) {
            DUE.is("size(" + what + ")", x.size(what), sizes[what]);
        }
        DUE.is("size(12)", x.size(12), -1);
        DUE.is("size(-1)", x.size(-1), -1);
        DUE.is("trouble(), not of size", x.trouble(), 0);
        DUE.yes("led(0) throws", DUE.throwsAt(x, 0));
        x.seen(9);
        DUE.is("trouble()", x.trouble(), 1);
        DUE.yes("led(0) throws", DUE.throwsAt(x, 0));
        x.feed(0, 0, 0, 0, 0);
        x.fault();
        x.where();
        DUE.is("trouble(), those have none", x.trouble(), 1);
        DUE.is("size(11)", x.size(11), 20);
        x.rests(0);
        DUE.is("trouble()", x.trouble(), 0);
    }
}
