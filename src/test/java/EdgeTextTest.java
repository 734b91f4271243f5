/** The edges of Term I, the text of a TABLE and its FAULTS, and of promises 1 to 5. */
public final class EdgeTextTest {
    private static final String HEAD = Texts.HEAD;
    private static final String SHORT = Texts.SHORT;
    private static final String FIVE = Texts.table("bowl 3 starve 99 flinch 0", "plain 1 1", "poet 2 1", "child 3 1",
        "plain 4 1", "plain 5 1") + ";name n from 0 worth 1";
    private static final String[] RESERVED = {"table", "person", "name", "fast", "unsure", "heard"};

    public static void main(String[] args) {
        Edges.run(EdgeTextTest.class);
    }

    // ---- I: THE TAPE and its TOKENS

    @Says("THE TAPE has 700 bytes;")
    private static void promise3_aTextOf700BytesIsReadToItsLastOne(Due due) {
        String last = ";name o from 7 worth 20";
        StringBuilder text = new StringBuilder(SHORT);
        while (text.length() < 700 - last.length()) {
            text.append(' ');
        }
        text.append(last);
        due.is("length of the text", text.length(), 700);
        due.good(text.toString(), 1);
        due.is("name(1, 1), told by the last two bytes", Due.lay(text.toString()).name(1, 1), 20);
        text.setCharAt(699, '1');
        due.fault(text.toString(), 4, 698);
    }

    @Says("blanks, 32, part TOKENS and mean nothing else;")
    private static void promise3_blanksPartTokensAndMeanNothingElse(Due due) {
        due.good("   " + SHORT.replace(" ", "   ").replace(";", "  ;  ") + "   ", 1);
        due.good(SHORT.replaceAll(" (?=[0-9])", "").replaceAll("(?<=[0-9]) ", ""), 1);
        due.faultAt(1, "^ta ble bowl 3 starve 9 flinch 0");
        due.faultAt(1, "table ^bo wl 3");
        due.faultAt(1, "table bowl 1 ^0 starve 9 flinch 0");
    }

    @Says("1 FORM: the first byte that begins no TOKEN,")
    private static void promise3_otherBytesBeginNoToken(Due due) {
        for (int b = 0; b < 256; b++) {
            boolean begins = b == ' ' || b == ';' || b >= 'a' && b <= 'z' || b >= '0' && b <= '9';
            if (!begins) {
                due.fault("" + (char) b, 1, 0);
                due.fault(SHORT.replace(" starve", (char) b + "starve"), 1, 12);
                due.fault(SHORT + (char) b, 1, SHORT.length());
            }
        }
    }

    @Says("TOKENS: WORDS of 1 to 8 small letters that stand together,")
    private static void promise3_wordsHaveOneToEightLetters(Due due) {
        due.good(SHORT.replace(" a ", " z "), 1);
        due.good(SHORT.replace(" a ", " abcdefgh "), 1);
        due.good(SHORT.replace(" a ", " zyxwvuts ").replace(" n ", " zyxwvutr "), 1);
        due.faultAt(1, HEAD + ";person ^abcdefghi plain hunger 9 need 1");
        due.faultAt(1, HEAD + ";person ^abcdefghplain hunger 9 need 1");
        due.faultAt(1, "^tablebowl 3 starve 9 flinch 0");
        due.faultAt(1, "table bowl 3^starveflinch");
        due.faultAt(1, "^Table bowl 3 starve 9 flinch 0");
        due.faultAt(1, "table bowl 3 ^sTarve 9 flinch 0");
    }

    @Says({"LINE, one of:", "or TOKEN with which no TABLE goes on"})
    private static void promise3_eachWordIsWrittenSo(Due due) {
        String text = SHORT + ";fast a day 1;unsure a 1;heard n day 1";
        due.good(text, 1);
        java.util.regex.Matcher words = java.util.regex.Pattern.compile("[a-z]{2,}").matcher(text);
        while (words.find()) {
            for (int i = words.start(); i < words.end(); i++) {
                StringBuilder other = new StringBuilder(text);
                other.setCharAt(i, 'q');
                due.fault(other.toString(), 1, words.start());
            }
            due.fault(text.substring(0, words.end()) + "q" + text.substring(words.end()), 1, words.start());
            due.fault(text.substring(0, words.end() - 1) + text.substring(words.end()), 1, words.start());
        }
    }

    @Says("WHOLES of 1 to 3 digits that do,")
    private static void promise3_wholesHaveOneToThreeDigits(Due due) {
        due.is("bowl, one digit", Due.lay(SHORT).size(0), 3);
        due.is("bowl, two", Due.lay(SHORT.replace("bowl 3", "bowl 09")).size(0), 9);
        due.is("bowl, three", Due.lay(SHORT.replace("bowl 3", "bowl 019")).size(0), 19);
        due.is("flinch, three zeros", Due.lay(SHORT.replace("flinch 0", "flinch 000")).size(2), 0);
        due.faultAt(1, "table bowl ^0003 starve 9 flinch 0");
        due.faultAt(1, "table bowl ^3000");
        due.faultAt(1, "table bowl ^00000000003");
    }

    @Says({"single ones of ;):", "LINE {; LINE}."})
    private static void promise3_linesArePartedByOneMark(Due due) {
        due.faultAt(1, "^;" + SHORT);
        due.faultAt(1, HEAD + ";^;person a plain hunger 9 need 1");
        due.faultAt(1, SHORT + ";^");
        due.faultAt(1, SHORT + " ;  ^");
        due.faultAt(1, HEAD + " ^person a plain hunger 9 need 1");
        due.faultAt(1, SHORT + " ^7");
        due.faultAt(6, HEAD + "^");
    }

    // ---- I: the LINES and their bounds

    @Says("table bowl WHOLE starve WHOLE flinch WHOLE (1 .. 20; 5 .. 200; 0 .. 100 in a hundred),")
    private static void promise3_boundsOfTheTable(Due due) {
        String rest = ";person a plain hunger 9 need 1;name n from 0 worth 1";
        LeanTable least = Due.lay("table bowl 1 starve 5 flinch 0" + rest);
        LeanTable most = Due.lay("table bowl 20 starve 200 flinch 100" + rest);
        int[] low = {1, 5, 0};
        int[] high = {20, 200, 100};
        for (int what = 0; what < 3; what++) {
            due.is("size(" + what + ") at least", least.size(what), low[what]);
            due.is("size(" + what + ") at most", most.size(what), high[what]);
        }
        due.faultAt(4, "table bowl ^0 starve 5 flinch 0" + rest);
        due.faultAt(4, "table bowl ^21 starve 5 flinch 0" + rest);
        due.faultAt(4, "table bowl 1 starve ^4 flinch 0" + rest);
        due.faultAt(4, "table bowl 1 starve ^201 flinch 0" + rest);
        due.faultAt(4, "table bowl 1 starve 5 flinch ^101" + rest);
        due.faultAt(4, "table bowl 1 starve 5 flinch ^999" + rest);
    }

    @Says("ahead of all others")
    private static void promise3_theTableIsAheadOfAllOthers(Due due) {
        due.faultAt(6, "^person a plain hunger 9 need 1;" + HEAD + ";name n from 0 worth 1");
        due.faultAt(6, "  ^name n from 0 worth 1;" + HEAD + ";person a plain hunger 9 need 1");
    }

    @Says("person NAME KIND hunger WHOLE need WHOLE (KIND: plain, poet, or child; 0 .. 99; 1 .. 9;")
    private static void promise3_boundsOfAPerson(Due due) {
        String[] kinds = {"plain", "poet", "child"};
        for (int kind = 0; kind < 3; kind++) {
            LeanTable least = Due.lay(HEAD + ";person a " + kinds[kind] + " hunger 0 need 1;name n from 0 worth 1");
            LeanTable most = Due.lay(HEAD + ";person a " + kinds[kind] + " hunger 99 need 9;name n from 0 worth 1");
            due.is("person(0, 2)", least.person(0, 2), kind);
            due.is("person(0, 0) at least", least.person(0, 0), 0);
            due.is("person(0, 1) at least", least.person(0, 1), 1);
            due.is("person(0, 0) at most", most.person(0, 0), 99);
            due.is("person(0, 1) at most", most.person(0, 1), 9);
        }
        due.faultAt(1, HEAD + ";person a ^poets hunger 0 need 1");
        due.faultAt(1, HEAD + ";person a ^hunger 0 need 1");
        due.faultAt(4, HEAD + ";person a plain hunger ^100 need 1");
        due.faultAt(4, HEAD + ";person a plain hunger 99 need ^0");
        due.faultAt(4, HEAD + ";person a plain hunger 99 need ^10");
    }

    @Says("name NAME from WHOLE worth WHOLE (0 .. 200, unlike; 0 .. 20;")
    private static void promise3_boundsOfAName(Due due) {
        LeanTable x = Due.lay(HEAD + ";person a plain hunger 9 need 1" + Texts.names(200, 0, 0, 20, 1, 1, 199, 19));
        int[][] told = {{200, 0}, {0, 20}, {1, 1}, {199, 19}};
        for (int k = 0; k < told.length; k++) {
            due.is("name(" + k + ", 0)", x.name(k, 0), told[k][0]);
            due.is("name(" + k + ", 1)", x.name(k, 1), told[k][1]);
        }
        due.faultAt(4, SHORT + ";name o from ^201 worth 0");
        due.faultAt(4, SHORT + ";name o from 200 worth ^21");
        due.faultAt(3, SHORT + ";name o from ^0 worth 0");
        due.faultAt(3, SHORT + ";name o from 200 worth 0;name p from ^200 worth 0");
    }

    @Says("fast PERSON day WHOLE (1 .. 60;")
    private static void promise3_boundsOfAFast(Due due) {
        LeanTable x = Due.lay(SHORT + ";fast a day 1;fast a day 60");
        due.is("size(5)", x.size(5), 2);
        due.faultAt(4, SHORT + ";fast a day ^0");
        due.faultAt(4, SHORT + ";fast a day ^61");
        due.faultAt(1, SHORT + ";fast a ^1");
        due.faultAt(1, SHORT + ";fast a day^");
    }

    @Says("each day of a PERSON once;")
    private static void promise3_eachDayOfAPersonOnce(Due due) {
        due.good(FIVE + ";fast a day 7;fast b day 7;fast a day 8", 5);
        due.faultAt(3, FIVE + ";fast a day 7;fast b day 7;fast a day ^7");
        due.faultAt(3, FIVE + ";fast b day 60;fast b day ^060");
    }

    @Says({"unsure PERSON WHOLE (whose hunger at first may be that, 0 .. 99;", "each once;"})
    private static void promise3_boundsOfAnUnsureOne(Due due) {
        due.is("size(6)", Due.lay(FIVE + ";unsure a 0;unsure b 99").size(6), 2);
        due.good(FIVE + ";unsure a7;unsure b99", 5);
        due.faultAt(4, FIVE + ";unsure a ^100");
        due.faultAt(1, FIVE + ";unsure a ^hunger 7");
        due.faultAt(3, FIVE + ";unsure a 0;unsure b 1;unsure ^a 2");
    }

    @Says({"or heard NAMED day WHOLE (a name, 1 .. 60;", "each day once;"})
    private static void promise3_boundsOfWhatWasHeard(Due due) {
        String two = SHORT + ";name o from 5 worth 1";
        due.is("size(7)", Due.lay(two + ";heard n day 1;heard o day 60;heard n day 59").size(7), 3);
        due.faultAt(4, two + ";heard n day ^0");
        due.faultAt(4, two + ";heard n day ^61");
        due.faultAt(3, two + ";heard n day 60;heard o day ^60");
        due.faultAt(3, two + ";heard n day 1;heard n day ^1");
    }

    @Says({"up to 5)", "5 MANY: a LINE more of its sort than there is room for, at its first WORD."})
    private static void promise3_upToFivePeople(Due due) {
        due.is("size(3)", Due.lay(FIVE).size(3), 5);
        due.faultAt(5, FIVE + ";^person f plain hunger 1 need 1");
        due.faultAt(5, FIVE + ";^person a");
    }

    @Says("up to 8)")
    private static void promise3_upToEightNames(Due due) {
        String eight = HEAD + ";person a plain hunger 9 need 1" + Texts.names(0, 1, 1, 1, 2, 1, 3, 1, 4, 1, 5, 1, 6, 1, 7, 1);
        due.is("size(4)", Due.lay(eight).size(4), 8);
        due.faultAt(5, eight + ";^name z from 8 worth 1");
        due.faultAt(5, eight + ";^name m from 0");
    }

    @Says({"up to 5)", "up to 8)"})
    private static void promise3_upToFivePeopleAndEightNames(Due due) {
        String names = Texts.names(0, 1, 1, 2, 2, 3, 3, 4, 4, 5, 5, 6, 6, 7, 7, 8);
        LeanTable x = Due.lay(FIVE.substring(0, FIVE.indexOf(";name")) + names);
        LeanTable y = Due.lay(HEAD + names + FIVE.substring(FIVE.indexOf(";person"), FIVE.indexOf(";name")));
        for (LeanTable all : new LeanTable[] {x, y}) {
            due.is("person(4, 0)", all.person(4, 0), 5);
            due.is("name(7, 1)", all.name(7, 1), 8);
        }
    }

    @Says("up to 8)")
    private static void promise3_upToEightFasts(Due due) {
        String eight = FIVE + ";fast a day 1;fast b day 1;fast a day 2;fast b day 2;fast a day 3;fast b day 3;fast c day 1;fast d day 60";
        LeanTable x = Due.lay(eight);
        due.is("size(5)", x.size(5), 8);
        due.is("share(2)", x.share(2), 0);
        due.is("eats(3, 60)", x.eats(3, 60), x.eats(3, 59));
        due.yes("eats(4, 1)", x.eats(4, 1) > 0);
        due.faultAt(5, eight + ";^fast e day 9");
        due.faultAt(5, eight + ";^fast zz day 99");
    }

    @Says("up to 4),")
    private static void promise3_upToFourUnsureOnes(Due due) {
        String four = FIVE + ";unsure a 1;unsure b 2;unsure c 3;unsure d 4";
        due.is("size(6)", Due.lay(four).size(6), 4);
        due.faultAt(5, four + ";^unsure e 5");
        due.faultAt(5, four + ";^unsure a 100");
    }

    @Says("up to 6)")
    private static void promise3_upToSixHeard(Due due) {
        String six = SHORT + ";heard n day 1;heard n day 2;heard n day 3;heard n day 4;heard n day 5;heard n day 60";
        due.is("size(7)", Due.lay(six).size(7), 6);
        due.is("judge(), all six so", Due.lay(six).judge(), -2);
        due.faultAt(5, six + ";^heard n day 7");
        due.faultAt(5, six + ";^heard a day 1");
    }

    @Says("NAMES are WORDS but table, person, name, fast, unsure, heard;")
    private static void promise3_sixWordsAreNoNames(Due due) {
        for (String word : RESERVED) {
            due.faultAt(1, HEAD + ";person ^" + word + " plain hunger 1 need 1");
            due.faultAt(1, HEAD + ";name ^" + word + " from 0 worth 1");
            due.faultAt(1, SHORT + ";fast ^" + word + " day 1");
            due.faultAt(1, SHORT + ";unsure ^" + word + " 1");
            due.faultAt(1, SHORT + ";heard ^" + word + " day 1");
        }
        for (String word : "bowl starve flinch plain poet child hunger need from worth day tables heards".split(" ")) {
            due.good(SHORT.replace(" a ", " " + word + " ") + ";fast " + word + " day 1", 1);
            due.good(SHORT.replace(" n ", " " + word + " ") + ";heard " + word + " day 1", 1);
        }
        due.faultAt(1, HEAD + ";person ^7 plain");
        due.faultAt(1, HEAD + ";person ^;");
        due.faultAt(1, HEAD + ";person ^");
    }

    @Says({"each told once, ahead of its use.", "2 a NAME that isn't told,"})
    private static void promise3_aNameIsToldAheadOfItsUse(Due due) {
        due.good(HEAD + ";name n from 0 worth 1;heard n day 1;person a plain hunger 9 need 1;fast a day 1;unsure a 1", 1);
        due.faultAt(2, HEAD + ";fast ^a day 1;person a plain hunger 9 need 1;name n from 0 worth 1");
        due.faultAt(2, HEAD + ";unsure ^a 1;person a plain hunger 9 need 1;name n from 0 worth 1");
        due.faultAt(2, HEAD + ";heard ^n day 1;person a plain hunger 9 need 1;name n from 0 worth 1");
        due.faultAt(2, SHORT + ";fast ^aa day 1");
        due.faultAt(2, SHORT.replace(" a ", " abcdefgh ") + ";fast ^abcdefgi day 1");
        due.faultAt(2, SHORT.replace(" a ", " ab ") + ";fast ^a day 1");
    }

    @Says("or is of another sort than must stand there; at it.")
    private static void promise3_aNameIsOfTheSortThatMustStandThere(Due due) {
        due.faultAt(2, SHORT + ";fast ^n day 1");
        due.faultAt(2, SHORT + ";unsure ^n 1");
        due.faultAt(2, SHORT + ";heard ^a day 1");
    }

    // ---- I: FAULTS

    @Says("FAULTS, the first that is met from the left,")
    private static void promise3_theFirstFaultFromTheLeft(Due due) {
        due.faultAt(4, "table bowl ^21 starve 4 flinch 101 ? ");
        due.faultAt(1, "table bowl 1 ^? starve 4");
        due.faultAt(1, SHORT + ";fast ^? day 1");
        due.faultAt(1, SHORT + ";heard ^?");
        due.faultAt(1, SHORT + ";unsure ^?");
        due.faultAt(2, SHORT + ";fast ^b day 61;;");
        due.faultAt(3, SHORT + ";unsure a 1;unsure ^a 100");
        due.faultAt(3, SHORT + ";name ^a from 201");
        due.faultAt(5, FIVE + ";^person table ?");
        due.faultAt(6, "^heard x?");
    }

    @Says("of one place the least number:")
    private static void promise3_ofOnePlaceTheLeastNumber(Due due) {
        due.faultAt(1, "^");
        due.faultAt(1, HEAD + ";^");
        due.faultAt(1, HEAD + ";name n from 1 worth^");
        due.faultAt(1, SHORT + ";fast ^table day 1");
    }

    @Says("or TOKEN with which no TABLE goes on (the end: its place).")
    private static void promise3_aTokenWithWhichNoTableGoesOn(Due due) {
        String[] parts = {"table", " bowl", " 3", " starve", " 9", " flinch", " 0", ";", "person", " a", " plain", " hunger", " 9",
            " need", " 1", ";", "name", " n", " from", " 0", " worth", " 1"};
        StringBuilder text = new StringBuilder();
        for (int i = 0; i < parts.length; i++) {
            boolean ends = i == 7 || i == 15;
            due.faultAt(ends ? 6 : 1, text + "^");
            due.faultAt(ends ? 6 : 1, text + "  ^");
            due.faultAt(1, text + " ^" + (parts[i].equals(";") ? "4" : ";"));
            text.append(parts[i]);
        }
        due.good(text.toString(), 1);
        due.good(text + " ", 1);
    }

    @Says("3 a NAME told again; at it;")
    private static void promise3_aNameToldAgain(Due due) {
        due.faultAt(3, SHORT + ";person ^a plain hunger 9 need 1");
        due.faultAt(3, SHORT + ";name ^n from 7 worth 1");
        due.faultAt(3, SHORT + ";person ^n plain hunger 9 need 1");
        due.faultAt(3, SHORT + ";name ^a from 7 worth 1");
        due.good(SHORT + ";name aa from 7 worth 1;person nn plain hunger 9 need 1", 2);
    }

    @Says("a from, a day of a PERSON, a day heard told already; at that WHOLE;")
    private static void promise3_aWholeToldAlready(Due due) {
        due.faultAt(3, SHORT + ";name o from ^000 worth 1");
        due.faultAt(3, SHORT + ";fast a day 60;fast a day ^60");
        due.faultAt(3, SHORT + ";heard n day 60;heard n day ^60");
        due.good(SHORT + ";fast a day 60;heard n day 60;name o from 60 worth 1;unsure a 60", 1);
    }

    @Says("a PERSON unsure already; at it;")
    private static void promise3_aPersonUnsureAlready(Due due) {
        due.faultAt(3, SHORT + ";unsure a 9;unsure ^a 9");
    }

    @Says("a second table: at that WORD.")
    private static void promise3_aSecondTable(Due due) {
        due.faultAt(3, HEAD + ";^" + HEAD);
        due.faultAt(3, SHORT + ";^table");
    }

    @Says("4 a WHOLE out of bounds; at it.")
    private static void promise3_aWholeOutOfBounds(Due due) {
        due.faultAt(4, "table bowl ^000 starve");
        due.faultAt(4, "table bowl   ^999");
        due.faultAt(4, SHORT + ";heard n day^999");
    }

    @Says("6 LACKS: any LINE ahead of the table; at its WORD;")
    private static void promise3_anyLineAheadOfTheTable(Due due) {
        for (int i = 1; i < RESERVED.length; i++) {
            due.faultAt(6, " ^" + RESERVED[i]);
        }
    }

    @Says("at the end: no person, or no name from 0.")
    private static void promise3_atTheEndNoPersonOrNoNameFrom0(Due due) {
        due.faultAt(6, HEAD + ";name n from 0 worth 1^");
        due.faultAt(6, HEAD + ";person a plain hunger 9 need 1^");
        due.faultAt(6, HEAD + ";person a plain hunger 9 need 1;name n from 1 worth 0^");
        due.faultAt(6, HEAD + ";person a plain hunger 9 need 1;name n from 200 worth 0   ^");
        due.good(HEAD + ";name m from 1 worth 0;name n from 0 worth 0;person a plain hunger 9 need 1", 1);
    }

    // ---- promises

    @Says("No TABLE.")
    private static void promise1_aNewObjectHasNoTable(Due due) {
        LeanTable x = new LeanTable();
        due.is("trouble()", x.trouble(), 0);
        due.is("fault()", x.fault(), 0);
        due.is("where()", x.where(), -1);
        due.refused("left()", x, x.left(), 1);
        due.is("NONE", LeanTable.NONE, -1);
        for (int what = 0; what < 12; what++) {
            due.is("size(" + what + ")", x.size(what), 0);
        }
    }

    @Says("An object is used for at most 512 calls after it has been made;")
    private static void promise1_the512thCallIsAnsweredAsTheFirst(Due due) {
        LeanTable x = new LeanTable();
        int calls = (Texts.FEAST.length() + 19) / 20 + 1;
        Due.tell(x, Texts.FEAST);
        for (; calls < 511; calls++) {
            x.day();
        }
        due.is("the 512th call", x.size(8), 511 - (Texts.FEAST.length() + 19) / 20 - 1);
    }

    @Says("Twenty bytes come behind THE TAPE, of each number the highest first: how many it has;")
    private static void promise2_twentyBytesTheHighestFirst(Due due) {
        LeanTable x = new LeanTable();
        due.is("feed", x.feed(0x7461626c, 0x6520626f, 0x776c2031, 0x37207374, 0x61727665), 20);
        due.is("feed", x.feed(0x20313720, 0x666c696e, 0x63682033, 0x333b7065, 0x72736f6e), 40);
        due.is("feed", x.feed(0x20612063, 0x68696c64, 0x2068756e, 0x67657220, 0x3731206e), 60);
        due.is("feed", x.feed(0x65656420, 0x373b6e61, 0x6d65206e, 0x2066726f, 0x6d203020), 80);
        due.is("feed", x.feed(0x776f7274, 0x68203133, 0, -1, Integer.MIN_VALUE), 100);
        due.is("table(88), of 'table bowl 17 starve 17 flinch 33;person a child hunger 71 need 7;name n from 0 worth 13'",
            x.table(88), 1);
        int[][] sizes = {{x.size(0), 17}, {x.size(1), 17}, {x.size(2), 33}, {x.person(0, 0), 71}, {x.person(0, 1), 7},
            {x.person(0, 2), 2}, {x.name(0, 1), 13}};
        for (int[] s : sizes) {
            due.is("as told", s[0], s[1]);
        }
    }

    @Says("of each number the highest first")
    private static void promise2_eachByteAtItsPlace(Due due) {
        for (int at = 0; at < 20; at++) {
            int[] five = {0x20202020, 0x20202020, 0x20202020, 0x20202020, 0x20202020};
            five[at / 4] ^= (0x20 ^ 0xE9) << 8 * (3 - at % 4);
            LeanTable x = new LeanTable();
            x.feed(five[0], five[1], five[2], five[3], five[4]);
            due.refused("table(20)", x, x.table(20), 4);
            due.is("where()", x.where(), at);
        }
    }

    @Says("NONE, and none comes, if there would be more than 700.")
    private static void promise2_noneComesIfThereWouldBeMoreThan700(Due due) {
        LeanTable x = new LeanTable();
        for (int i = 1; i <= 35; i++) {
            due.is("feed " + i, x.feed(0x20202020, 0x20202020, 0x20202020, 0x20202020, 0x20202020), 20 * i);
        }
        due.is("feed 36", x.feed(0x74747474, 0x74747474, 0x74747474, 0x74747474, 0x74747474), -1);
        due.is("feed 37", x.feed(0, 0, 0, 0, 0), -1);
        due.is("size(11)", x.size(11), 700);
        due.refused("table(701)", x, x.table(701), 2);
        due.refused("table(700)", x, x.table(700), 4);
        due.is("fault(), blanks alone", x.fault(), 1);
        due.is("where(), none came", x.where(), 700);
        due.is("feed, THE TAPE is empty", x.feed(0, 0, 0, 0, 0), 20);
    }

    @Says("The first n bytes of THE TAPE (it is empty then) are the TABLE from now on")
    private static void promise3_theFirstBytesAreTheTable(Due due) {
        LeanTable x = new LeanTable();
        Due.put(x, SHORT + "7;;;");
        due.is("table, behind the n-th is nothing", x.table(SHORT.length()), 1);
        due.is("name(0, 1)", x.name(0, 1), 1);
        due.is("size(11), it is empty", x.size(11), 0);
        Due.put(x, "tablex");
        due.refused("table(5), of tablex", x, x.table(5), 4);
        due.is("where(), the end, not at tablex", x.where(), 5);
        Due.put(x, SHORT);
        due.refused("table(length - 1), worth without a WHOLE", x, x.table(SHORT.length() - 1), 4);
        due.is("where()", x.where(), SHORT.length() - 1);
        due.is("size(11), it is empty", x.size(11), 0);
    }

    @Says("(no day gone by; nothing left, nobody bidden; nothing to undo, no IMAGES): how many people.")
    private static void promise3_allBeginsAnew(Due due) {
        LeanTable x = Due.lay(Texts.FEAST);
        x.image();
        x.bid(2);
        x.day();
        due.is("person(2, 3)", x.person(2, 3), 1);
        x.pour(9);
        x.value(0, 9);
        x.bid(0);
        x.bid(1);
        x.bid(2);
        due.is("table", Due.tell(x, Texts.FEAST), 3);
        due.is("size(8)", x.size(8), 0);
        due.is("left()", x.left(), 0);
        for (int p = 0; p < 3; p++) {
            due.is("person(" + p + ", 5)", x.person(p, 5), 0);
            due.is("person(" + p + ", 3)", x.person(p, 3), 0);
        }
        due.is("person(0, 0)", x.person(0, 0), 6);
        due.is("name(0, 1)", x.name(0, 1), 1);
        due.is("size(9)", x.size(9), 0);
        due.no("undo()", x.undo());
        due.is("size(10)", x.size(10), 0);
        due.no("back(0)", x.back(0));
        due.is("image(), by the least number again", x.image(), 0);
    }

    @Says("(no day gone by; nothing left, nobody bidden; nothing to undo, no IMAGES): how many people.")
    private static void promise3_theDeadOfATableAheadAreGone(Due due) {
        LeanTable x = Due.lay(Texts.DOOMED);
        x.day();
        due.is("table", Due.tell(x, FIVE), 5);
        due.is("livingIn(0)", x.livingIn(0), 31);
        due.yes("led(0) throws", due.throwsAt(x, 0));
        due.is("table, with fewer of all", Due.tell(x, SHORT), 1);
        due.refused("person(1, 0)", x, x.person(1, 0), 1);
        due.is("livingIn(0)", x.livingIn(0), 1);
    }

    @Says("The first n bytes of THE TAPE (it is empty then) are the TABLE from now on")
    private static void promise3_nothingStaysOfTablesAhead(Due due) {
        String full = FIVE + ";fast a day 1;fast b day 1;fast c day 1;unsure a 9;unsure b 9;unsure c 9;unsure d 9"
            + ";heard n day 1;heard n day 2;heard n day 3";
        LeanTable x = new LeanTable();
        for (int i = 0; i < 3; i++) {
            due.is("table", Due.tell(x, full), 5);
            due.is("fits()", x.fits(), 16);
            due.is("could()", x.could(), 15);
            due.is("a fault", Due.tell(x, full + ";"), -1);
        }
        due.is("table", Due.tell(x, SHORT + ";fast a day 2;fast a day 1;unsure a 8;heard n day 3;heard n day 1"), 1);
        int[] sizes = {3, 9, 0, 1, 1, 2, 1, 2};
        for (int what = 0; what < sizes.length; what++) {
            due.is("size(" + what + ")", x.size(what), sizes[what]);
        }
        due.is("fits(), a DEAD one names no dish", x.fits(), 0);
        due.is("table", Due.tell(x, SHORT + ";unsure a 0"), 1);
        due.is("fits()", x.fits(), 2);
        due.is("could()", x.could(), 1);
        due.refused("fitAt(2)", x, x.fitAt(2), 1);
        due.is("table", Due.tell(x, SHORT), 1);
        due.is("fits()", x.fits(), 1);
        due.is("judge()", x.judge(), -2);
        due.is("share(0)", x.share(0), 3);
        for (int what = 5; what <= 7; what++) {
            due.is("size(" + what + ")", x.size(what), 0);
        }
    }

    @Says("NONE: 2 (THE TAPE stays);")
    private static void promise3_aNumberThatTheTapeHasNot(Due due) {
        LeanTable x = Due.lay(SHORT);
        Due.put(x, Texts.DOOMED);
        int fed = x.size(11);
        due.refused("table(one more than it has)", x, x.table(fed + 1), 2);
        for (int n : Texts.WILD) {
            due.refused("table(" + n + ")", x, x.table(n), 2);
        }
        due.is("size(11), THE TAPE stays", x.size(11), fed);
        due.is("size(1), the TABLE too", x.size(1), 9);
        due.is("table(all of it)", x.table(fed), 1);
        due.is("size(1)", x.size(1), 5);
        due.refused("table(1), of none", x, x.table(1), 2);
        due.refused("table(0), of none: a text without a TOKEN", x, x.table(0), 4);
    }

    @Says("4 (the TABLE stays).")
    private static void promise3_aFaultLeavesTheTable(Due due) {
        LeanTable x = Due.lay(Texts.FEAST);
        x.image();
        x.bid(0);
        x.pour(3);
        due.is("a fault at the end", Due.tell(x, FIVE + ";fast e day 1;unsure e 1;heard n day 1;"), -1);
        int[] sizes = {4, 30, 50, 3, 3, 1, 1, 2, 0, 2, 1, 0};
        for (int what = 0; what < 12; what++) {
            due.is("size(" + what + ")", x.size(what), sizes[what]);
        }
        due.is("person(0, 5)", x.person(0, 5), 1);
        due.is("person(0, 0)", x.person(0, 0), 6);
        due.is("left()", x.left(), 3);
        due.is("name(1, 0)", x.name(1, 0), 8);
        due.yes("undo()", x.undo());
        due.yes("back(0)", x.back(0));
        due.is("fits()", x.fits(), 1);
        LeanTable none = new LeanTable();
        due.is("a fault without a TABLE", Due.tell(none, SHORT + ";"), -1);
        due.refused("left(), there is none yet", none, none.left(), 1);
    }

    @Says("The FAULT of the latest table() not refused by 2; 0 without one.")
    private static void promise4_theFaultOfTheLatestTable(Due due) {
        String[] texts = {"?", SHORT + ";fast b", SHORT + ";table", "table bowl 0", FIVE + ";person", HEAD};
        LeanTable x = new LeanTable();
        due.is("fault(), no table() yet", x.fault(), 0);
        due.refused("table(1)", x, x.table(1), 2);
        due.is("fault(), refused by 2", x.fault(), 0);
        for (int i = 0; i < texts.length; i++) {
            Due.tell(x, texts[i]);
            due.is("fault()", x.fault(), i + 1);
            due.refused("table(1)", x, x.table(1), 2);
            due.is("fault() of the one ahead", x.fault(), i + 1);
            x.left();
            due.is("fault() stays", x.fault(), i + 1);
        }
        Due.tell(x, SHORT);
        due.is("fault(), without one", x.fault(), 0);
    }

    @Says("Its place, if the latest call that may be refused was by 4; NONE else.")
    private static void promise5_itsPlaceByTheLatestCall(Due due) {
        LeanTable x = Due.lay(SHORT);
        due.is("where(), no fault", x.where(), -1);
        Due.tell(x, " table bowl 99");
        due.is("where()", x.where(), 12);
        x.where();
        x.fault();
        x.trouble();
        x.size(0);
        x.feed(0, 0, 0, 0, 0);
        due.throwsAt(x, 0);
        due.is("where(), those are never refused by a number", x.where(), 12);
        x.namer();
        due.is("where(), a call that wasn't refused", x.where(), -1);
        x.table(20);
        due.is("where()", x.where(), 0);
        x.table(1);
        due.is("where(), refused by 2", x.where(), -1);
        x.table(0);
        due.is("where(), the end of no text", x.where(), 0);
        x.undo();
        due.is("where(), refused by 6", x.where(), -1);
    }
}
