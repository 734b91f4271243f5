import java.util.ArrayList;
import java.util.Arrays;
import java.util.List;
import java.util.Random;

/** Long runs of drawn calls on drawn tables, each answer as the Model's. */
public final class ModelTest {
    private static final String[] CALLS = {
        "fault", "where", "person pw", "name kv", "left", "seen p", "calls p", "namer", "dish", "share p", "nameWith g",
        "guestFor k", "namerIn n", "dishIn n", "hungerIn pn", "leftIn n", "livingIn n", "hungriestIn n", "unevenIn n",
        "deadIn p", "eats pn", "says pn", "firstDish k", "named n", "worthIn n", "fastsFor kf", "fastsAt kf", "bestFast",
        "bestWorth", "tables", "tablesWorth", "bowlFor n", "fits", "fitAt i", "could", "surely", "ask", "askLeaves",
        "judge", "takes hbbb", "rests h", "rest h", "odds kcb", "mean cb", "drawn sn", "led i", "size z", "trouble"};
    private static final String[] ACTS = {"day", "day", "day", "day", "bid p", "bid p", "give pm", "pour m", "value kw", "undo", "image", "back v"};

    private final Random random;
    private final Due due;
    private LeanTable x;
    private Model model;

    private ModelTest(long seed, Due due) {
        this.random = new Random(seed);
        this.due = due;
    }

    private int upTo(int n) {
        return random.nextInt(n + 1);
    }

    private int between(int a, int b) {
        return a + random.nextInt(b - a + 1);
    }

    /** A table's text; tight bounds make hungers alike, loose ones reach the document's edges. */
    private List<String> drawLines() {
        boolean loose = random.nextInt(4) == 0;
        List<String> lines = new ArrayList<>();
        int people = between(1, 5);
        int names = between(1, loose ? 8 : 5);
        for (int p = 0; p < people; p++) {
            lines.add("person " + "abcde".charAt(p) + " " + Model.KINDS[upTo(2)] + " hunger " + upTo(loose ? 99 : 12)
                + " need " + between(1, loose ? 9 : 4));
        }
        List<Integer> froms = new ArrayList<>();
        for (int k = 0; k < names; k++) {
            int from = k == 0 ? 0 : between(1, loose ? 200 : 30);
            if (!froms.contains(from)) {
                froms.add(from);
                lines.add("name " + "mnopqrst".charAt(froms.size() - 1) + " from " + from + " worth " + upTo(loose ? 20 : 6));
            }
        }
        java.util.Collections.shuffle(lines, random);
        List<String> more = new ArrayList<>();
        for (int i = upTo(random.nextInt(3) == 0 ? 8 : 3); i > 0; i--) {
            more.add("fast " + "abcde".charAt(random.nextInt(people)) + " day " + between(1, random.nextInt(3) == 0 ? 60 : 8));
        }
        for (int u = 0; u < people && u < 4; u++) {
            if (random.nextInt(2) == 0) {
                more.add("unsure " + "edcba".charAt(5 - people + u) + " " + upTo(20));
            }
        }
        for (int i = upTo(3); i > 0; i--) {
            more.add("heard " + "mnopqrst".charAt(random.nextInt(froms.size())) + " day " + between(1, random.nextInt(3) == 0 ? 60 : 6));
        }
        java.util.Collections.shuffle(more, random);
        lines.addAll(more);
        lines.add(0, "table bowl " + between(1, loose ? 20 : 7) + " starve " + (random.nextInt(3) > 0 ? between(10, 40) : between(5, 200))
            + " flinch " + (random.nextInt(4) == 0 ? upTo(1) * 100 : upTo(100)));
        return lines;
    }

    private String drawText() {
        List<String> lines = drawLines();
        if (random.nextInt(8) == 0) {
            lines.add(upTo(lines.size()), lines.get(random.nextInt(lines.size())));
        }
        if (random.nextInt(8) == 0) {
            lines.remove(random.nextInt(lines.size()));
        }
        StringBuilder text = new StringBuilder(String.join(random.nextBoolean() ? ";" : " ; ", lines));
        if (random.nextInt(3) == 0 && text.length() > 0) {
            spoil(text);
        }
        return text.substring(0, Math.min(700, text.length()));
    }

    private void spoil(StringBuilder text) {
        int at = random.nextInt(text.length());
        String signs = " ;09a1zXtable\u00e9";
        switch (random.nextInt(4)) {
            case 0:
                text.deleteCharAt(at);
                break;
            case 1:
                text.insert(at, signs.charAt(random.nextInt(signs.length())));
                break;
            case 2:
                text.setCharAt(at, signs.charAt(random.nextInt(signs.length())));
                break;
            default:
                text.setLength(at);
                break;
        }
    }

    private int drawArgument(char sort) {
        boolean wild = random.nextInt(20) == 0;
        if (wild) {
            int[] odd = {-1, -2, Integer.MIN_VALUE, Integer.MAX_VALUE, 61, 100, 1000, 65537, 7};
            return sort == 'b' ? upTo(1) : odd[random.nextInt(odd.length)];
        }
        switch (sort) {
            case 'p':
                return upTo(random.nextInt(4) == 0 ? 5 : 3);
            case 'w':
                return upTo(random.nextInt(8) == 0 ? 20 : 6);
            case 'k':
                return upTo(random.nextInt(4) == 0 ? 8 : 3);
            case 'v':
                return upTo(2);
            case 'g':
                return upTo(random.nextInt(4) == 0 ? 1001 : 60);
            case 'n':
                return upTo(random.nextInt(3) == 0 ? 61 : 10);
            case 'f':
                return random.nextInt(12) == 0 ? 3 : upTo(2);
            case 'i':
                return upTo(5);
            case 'h':
                return upTo(10);
            case 'b':
                return upTo(1);
            case 'c':
                return random.nextInt(6) == 0 ? upTo(7) : upTo(3);
            case 's':
                return upTo(65537);
            case 'm':
                return random.nextInt(3) == 0 ? upTo(100) : between(1, 9);
            default:
                return upTo(12);
        }
    }

    private void same(String f, int... a) {
        long want = model.call(f, a);
        due.is(f + Arrays.toString(a), answer(f, a), want);
    }

    private void sameAll(String f, int... a) {
        same(f, a);
        due.is(f + Arrays.toString(a) + ", then trouble()", x.trouble(), model.trouble);
    }

    private void sameCall(String pattern) {
        String[] parts = pattern.split(" ");
        String sorts = parts.length > 1 ? parts[1] : "";
        int[] a = new int[sorts.length()];
        for (int i = 0; i < a.length; i++) {
            a[i] = drawArgument(sorts.charAt(i));
        }
        sameAll(parts[0], a);
    }

    private void tellBoth() {
        String text = drawText();
        StringBuilder padded = new StringBuilder(text);
        while (padded.length() % 20 != 0) {
            padded.append(' ');
        }
        for (int i = 0; i < padded.length(); i += 20) {
            int[] five = new int[5];
            for (int j = 0; j < 20; j++) {
                five[j / 4] = five[j / 4] << 8 | padded.charAt(i + j);
            }
            same("feed", five);
        }
        if (random.nextInt(10) == 0) {
            sameAll("table", random.nextBoolean() ? -1 : 1 + (int) model.call("size", 11));
        }
        due.part("'" + text + "'");
        sameAll("table", Math.min(text.length(), model.tape.length()));
        same("fault");
        same("where");
        for (int i = 0; i <= 11; i++) {
            same("size", i);
        }
    }

    private void run() {
        x = new LeanTable();
        model = new Model();
        if (random.nextInt(5) == 0) {
            sameCall(CALLS[random.nextInt(CALLS.length)]);
        }
        for (int part = 0; part < 2; part++) {
            tellBoth();
            for (int i = 0; i < 75; i++) {
                sameCall(random.nextInt(3) == 0 ? ACTS[random.nextInt(ACTS.length)] : CALLS[random.nextInt(CALLS.length)]);
            }
            for (int p = 0; p < 5; p++) {
                for (int what = 0; what < 6; what++) {
                    same("person", p, what);
                }
            }
        }
    }

    private long answer(String f, int[] a) {
        switch (f) {
            case "feed": return x.feed(a[0], a[1], a[2], a[3], a[4]);
            case "table": return x.table(a[0]);
            case "fault": return x.fault();
            case "where": return x.where();
            case "person": return x.person(a[0], a[1]);
            case "name": return x.name(a[0], a[1]);
            case "left": return x.left();
            case "seen": return x.seen(a[0]);
            case "calls": return x.calls(a[0]);
            case "namer": return x.namer();
            case "dish": return x.dish();
            case "share": return x.share(a[0]);
            case "nameWith": return x.nameWith(a[0]);
            case "guestFor": return x.guestFor(a[0]);
            case "namerIn": return x.namerIn(a[0]);
            case "dishIn": return x.dishIn(a[0]);
            case "hungerIn": return x.hungerIn(a[0], a[1]);
            case "leftIn": return x.leftIn(a[0]);
            case "livingIn": return x.livingIn(a[0]);
            case "hungriestIn": return x.hungriestIn(a[0]);
            case "unevenIn": return x.unevenIn(a[0]);
            case "deadIn": return x.deadIn(a[0]);
            case "eats": return x.eats(a[0], a[1]);
            case "says": return x.says(a[0], a[1]);
            case "firstDish": return x.firstDish(a[0]);
            case "named": return x.named(a[0]);
            case "worthIn": return x.worthIn(a[0]);
            default: return answerMore(f, a);
        }
    }

    private long answerMore(String f, int[] a) {
        switch (f) {
            case "fastsFor": return x.fastsFor(a[0], a[1]);
            case "fastsAt": return x.fastsAt(a[0], a[1]);
            case "bestFast": return x.bestFast();
            case "bestWorth": return x.bestWorth();
            case "tables": return x.tables();
            case "tablesWorth": return x.tablesWorth();
            case "bowlFor": return x.bowlFor(a[0]);
            case "fits": return x.fits();
            case "fitAt": return x.fitAt(a[0]);
            case "could": return x.could();
            case "surely": return x.surely();
            case "ask": return x.ask();
            case "askLeaves": return x.askLeaves();
            case "judge": return x.judge();
            case "takes": return x.takes(a[0], a[1] == 1, a[2] == 1, a[3] == 1);
            case "rests": return x.rests(a[0]);
            case "rest": return x.rest(a[0]);
            case "odds": return x.odds(a[0], a[1], a[2] == 1);
            case "mean": return x.mean(a[0], a[1] == 1);
            case "drawn": return x.drawn(a[0], a[1]);
            case "day": return x.day();
            case "bid": return x.bid(a[0]);
            case "give": return x.give(a[0], a[1]);
            case "pour": return x.pour(a[0]);
            case "value": return x.value(a[0], a[1]);
            case "undo": return x.undo() ? 1 : 0;
            case "image": return x.image();
            case "back": return x.back(a[0]) ? 1 : 0;
            case "led": return due.throwsAt(x, a[0]) ? -99 : x.led(a[0]);
            case "size": return x.size(a[0]);
            case "trouble": return x.trouble();
            default: throw new IllegalStateException(f);
        }
    }

    public static void main(String[] args) {
        Due due = new Due();
        int runs = args.length > 0 ? Integer.parseInt(args[0]) : 400;
        for (int seed = 1; seed <= runs; seed++) {
            new ModelTest(seed, due).run();
        }
        due.end("ModelTest");
    }
}
