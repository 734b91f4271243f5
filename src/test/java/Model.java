import java.util.ArrayDeque;
import java.util.ArrayList;
import java.util.Collections;
import java.util.Comparator;
import java.util.Deque;
import java.util.LinkedHashMap;
import java.util.List;
import java.util.Map;
import java.math.BigInteger;

/** The document once more, in the slowest and plainest way, to compare with. */
final class Model {
    static final String[] KINDS = {"plain", "poet", "child"};
    static final Map<String, String[]> LINES = new LinkedHashMap<>();
    static {
        LINES.put("table", "bowl 1..20 starve 5..200 flinch 0..100".split(" "));
        LINES.put("person", "NEW KIND hunger 0..99 need 1..9".split(" "));
        LINES.put("name", "NEW from 0..200 worth 0..20".split(" "));
        LINES.put("fast", "person day 1..60".split(" "));
        LINES.put("unsure", "person 0..99".split(" "));
        LINES.put("heard", "name day 1..60".split(" "));
    }
    static final Map<String, Integer> ROOM = Map.of("table", 1, "person", 5, "name", 8, "fast", 8, "unsure", 4, "heard", 6);

    /** What a LINE told: its words' numbers in order. */
    static final class Fault extends RuntimeException {
        private static final long serialVersionUID = 1;
        final int number;
        final int place;
        Fault(int number, int place) {
            this.number = number;
            this.place = place;
        }
    }

    static final class Tables {
        final Map<String, List<int[]>> lines = new LinkedHashMap<>();
        final Map<String, int[]> names = new LinkedHashMap<>();
        Tables() {
            for (String s : LINES.keySet()) {
                lines.put(s, new ArrayList<>());
            }
        }
        List<int[]> of(String sort) {
            return lines.get(sort);
        }
        int people() {
            return of("person").size();
        }
    }

    static final class State implements Cloneable {
        int[] hunger;
        int[] streak;
        int[] worth;
        boolean[] dead;
        boolean[] bidden;
        int left;
        int gone;
        State copy() {
            State s = new State();
            s.hunger = hunger.clone();
            s.streak = streak.clone();
            s.worth = worth.clone();
            s.dead = dead.clone();
            s.bidden = bidden.clone();
            s.left = left;
            s.gone = gone;
            return s;
        }
        int deadBits() {
            int b = 0;
            for (int p = 0; p < dead.length; p++) {
                b += dead[p] ? 1 << p : 0;
            }
            return b;
        }
    }

    static final class Day {
        int namer = -2;
        int dish = -2;
        int[] ate;
        State then;
    }

    String tape = "";
    Tables t = new Tables();
    State now = null;
    Deque<State> past = new ArrayDeque<>();
    List<State> images = new ArrayList<>();
    int trouble = 0;
    int fault = 0;
    int place = 0;

    // ---- reading

    static List<int[]> tokens(String text) {
        List<int[]> all = new ArrayList<>();
        int i = 0;
        while (i < text.length()) {
            char c = text.charAt(i);
            if (c == ' ') {
                i++;
                continue;
            }
            int j = i;
            String set = c >= 'a' && c <= 'z' ? "[a-z]" : c >= '0' && c <= '9' ? "[0-9]" : null;
            if (set == null) {
                all.add(new int[] {i, i + 1});
                i++;
                continue;
            }
            while (j < text.length() && text.substring(j, j + 1).matches(set)) {
                j++;
            }
            all.add(new int[] {i, j});
            i = j;
        }
        all.add(new int[] {text.length(), text.length()});
        return all;
    }

    static Tables read(String text) {
        Tables r = new Tables();
        List<int[]> toks = tokens(text);
        int at = 0;
        while (true) {
            String sort = piece(text, toks.get(at));
            int where = toks.get(at)[0];
            if (!LINES.containsKey(sort)) {
                throw new Fault(1, where);
            }
            boolean tabled = !r.of("table").isEmpty();
            if (sort.equals("table") && tabled) {
                throw new Fault(3, where);
            }
            if (r.of(sort).size() == ROOM.get(sort)) {
                throw new Fault(5, where);
            }
            if (!tabled && !sort.equals("table")) {
                throw new Fault(6, where);
            }
            at = line(text, toks, at + 1, sort, r);
            String mark = piece(text, toks.get(at));
            if (mark.isEmpty()) {
                break;
            }
            if (!mark.equals(";")) {
                throw new Fault(1, toks.get(at)[0]);
            }
            at++;
        }
        if (r.people() == 0 || r.of("name").stream().noneMatch(n -> n[1] == 0)) {
            throw new Fault(6, text.length());
        }
        return r;
    }

    static String piece(String text, int[] tok) {
        return text.substring(tok[0], tok[1]);
    }

    static int line(String text, List<int[]> toks, int from, String sort, Tables r) {
        int at = from;
        List<Integer> got = new ArrayList<>();
        for (String part : LINES.get(sort)) {
            String tok = piece(text, toks.get(at));
            int where = toks.get(at)[0];
            boolean nameable = tok.matches("[a-z]{1,8}") && !LINES.containsKey(tok);
            if (part.contains("..")) {
                if (!tok.matches("[0-9]{1,3}")) {
                    throw new Fault(1, where);
                }
                int v = Integer.parseInt(tok);
                String[] ends = part.split("\\.\\.");
                if (toldAlready(sort, got, v, r)) {
                    throw new Fault(3, where);
                }
                if (v < Integer.parseInt(ends[0]) || v > Integer.parseInt(ends[1])) {
                    throw new Fault(4, where);
                }
                got.add(v);
            } else if (part.equals("NEW")) {
                if (!nameable) {
                    throw new Fault(1, where);
                }
                if (r.names.containsKey(tok)) {
                    throw new Fault(3, where);
                }
                r.names.put(tok, new int[] {sort.equals("person") ? 0 : 1, r.of(sort).size()});
                got.add(-7);
            } else if (part.equals("KIND")) {
                int kind = List.of(KINDS).indexOf(tok);
                if (kind < 0) {
                    throw new Fault(1, where);
                }
                got.add(kind);
            } else if (part.equals("person") || part.equals("name")) {
                if (!nameable) {
                    throw new Fault(1, where);
                }
                int[] means = r.names.get(tok);
                if (means == null || means[0] != (part.equals("person") ? 0 : 1)) {
                    throw new Fault(2, where);
                }
                if (sort.equals("unsure") && r.of("unsure").stream().anyMatch(u -> u[0] == means[1])) {
                    throw new Fault(3, where);
                }
                got.add(means[1]);
            } else if (!tok.equals(part)) {
                throw new Fault(1, where);
            }
            at++;
        }
        r.of(sort).add(got.stream().mapToInt(i -> i).toArray());
        return at;
    }

    static boolean toldAlready(String sort, List<Integer> got, int v, Tables r) {
        switch (sort) {
            case "name":
                return got.size() == 1 && r.of(sort).stream().anyMatch(n -> n[1] == v);
            case "fast":
                return r.of(sort).stream().anyMatch(f -> f[0] == got.get(0) && f[1] == v);
            case "heard":
                return r.of(sort).stream().anyMatch(h -> h[1] == v);
            default:
                return false;
        }
    }

    static State begin(Tables t, int others) {
        State s = new State();
        int n = t.people();
        s.hunger = new int[n];
        s.streak = new int[n];
        s.dead = new boolean[n];
        s.bidden = new boolean[n];
        s.worth = t.of("name").stream().mapToInt(k -> k[2]).toArray();
        for (int p = 0; p < n; p++) {
            s.hunger[p] = t.of("person").get(p)[2];
        }
        for (int u = 0; u < t.of("unsure").size(); u++) {
            if ((others >> u) % 2 == 1) {
                s.hunger[t.of("unsure").get(u)[0]] = t.of("unsure").get(u)[1];
            }
        }
        return s;
    }

    // ---- a day

    int seenOf(State s, int p) {
        int[] told = t.of("person").get(p);
        int h = s.hunger[p] + told[3];
        return told[1] == 0 ? h : told[1] == 1 ? h + 3 * s.streak[p] : h * 2;
    }

    int nameOf(int seen) {
        int best = -2;
        for (int f = 0; f <= seen && f <= 200; f++) {
            for (int k = 0; k < t.of("name").size(); k++) {
                if (t.of("name").get(k)[1] == f) {
                    best = k;
                }
            }
        }
        return best;
    }

    List<Integer> living(State s) {
        List<Integer> all = new ArrayList<>();
        for (int p = 0; p < t.people(); p++) {
            if (!s.dead[p]) {
                all.add(p);
            }
        }
        return all;
    }

    boolean fasts(State s, int p) {
        int day = s.gone + 1;
        return s.bidden[p] || t.of("fast").stream().anyMatch(f -> f[0] == p && f[1] == day);
    }

    Day pass(State before, int besides, boolean flinch, int bowl) {
        Day d = new Day();
        State s = before.copy();
        d.then = s;
        d.ate = new int[t.people()];
        List<Integer> alive = living(before);
        List<Integer> bySeen = new ArrayList<>(alive);
        bySeen.sort(Comparator.comparingInt(p -> -seenOf(before, p)));
        if (!alive.isEmpty()) {
            d.namer = bySeen.get(flinch && alive.size() > 1 ? 1 : 0);
            d.dish = nameOf(seenOf(before, d.namer));
        }
        List<Integer> eaters = new ArrayList<>();
        for (int p : alive) {
            s.hunger[p] += t.of("person").get(p)[3];
            boolean f = fasts(before, p) || (besides >> p) % 2 == 1;
            s.streak[p] = f ? s.streak[p] + 1 : 0;
            if (!f) {
                eaters.add(p);
            }
        }
        eaters.sort(Comparator.comparingInt(p -> -s.hunger[p]));
        int portions = Math.min(99, before.left + bowl);
        int turn = 0;
        while (portions > 0 && eaters.stream().anyMatch(p -> s.hunger[p] > 0)) {
            int p = eaters.get(turn++ % eaters.size());
            if (s.hunger[p] > 0) {
                portions--;
                d.ate[p]++;
                s.hunger[p] = Math.max(0, s.hunger[p] - s.worth[d.dish]);
            }
        }
        s.left = portions;
        for (int p : alive) {
            s.dead[p] = s.hunger[p] > t.of("table").get(0)[1];
        }
        s.bidden = new boolean[t.people()];
        s.gone++;
        return d;
    }

    int bowl() {
        return t.of("table").get(0)[0];
    }

    List<Day> days(int n) {
        List<Day> all = new ArrayList<>();
        State s = now;
        for (int i = 0; i < n; i++) {
            Day d = pass(s, 0, false, bowl());
            all.add(d);
            s = d.then;
        }
        return all;
    }

    State behind(int n) {
        return n == 0 ? now : days(n).get(n - 1).then;
    }

    int worth(State s, int dish) {
        return dish < 0 ? 0 : s.worth[dish];
    }

    // ---- the face: NONE by a Refusal, so that each call tells its trouble in one place

    static final class Refusal extends RuntimeException {
        private static final long serialVersionUID = 1;
        final int why;
        Refusal(int why) {
            this.why = why;
        }
    }

    void must(boolean holds, int why) {
        if (!holds) {
            throw new Refusal(why);
        }
    }

    void table() {
        must(now != null, 1);
    }

    void aPerson(int p) {
        must(now != null && p >= 0 && p < t.people(), 1);
    }

    void aName(int k) {
        must(now != null && k >= 0 && k < t.of("name").size(), 1);
    }

    void within(int n, int a, int b) {
        must(n >= a && n <= b, 2);
    }

    /** The answer of a call by its name; what booleans are, are 1 and 0. */
    long call(String f, int... a) {
        switch (f) {
            case "feed":
                return feed(a);
            case "fault":
                return fault;
            case "where":
                return trouble == 4 ? place : -1;
            case "trouble":
                return trouble;
            case "size":
                return size(a[0]);
            case "led":
                return led(a[0]);
            default:
                break;
        }
        try {
            long it = refusable(f, a);
            trouble = 0;
            return it;
        } catch (Refusal r) {
            trouble = r.why;
            return f.equals("takes") ? -100 : f.equals("undo") || f.equals("back") ? 0 : -1;
        }
    }

    long feed(int[] a) {
        if (tape.length() + 20 > 700) {
            return -1;
        }
        StringBuilder b = new StringBuilder(tape);
        for (int w : a) {
            b.append((char) (w >>> 24)).append((char) (w >>> 16 & 255)).append((char) (w >>> 8 & 255)).append((char) (w & 255));
        }
        tape = b.toString();
        return tape.length();
    }

    long size(int what) {
        if (what < 0 || what > 11) {
            return -1;
        }
        if (what == 11) {
            return tape.length();
        }
        if (now == null) {
            return 0;
        }
        if (what < 3) {
            return t.of("table").get(0)[what];
        }
        if (what < 8) {
            return t.of(new String[] {"person", "name", "fast", "unsure", "heard"}[what - 3]).size();
        }
        return what == 8 ? now.gone : what == 9 ? past.size() : images.size();
    }

    /** -99 for the exception. */
    long led(int i) {
        List<Integer> gone = new ArrayList<>();
        for (int p = 0; now != null && p < t.people(); p++) {
            if (now.dead[p]) {
                gone.add(p);
            }
        }
        return i < 0 || i >= gone.size() ? -99 : gone.get(i);
    }

    long refusable(String f, int[] a) {
        switch (f) {
            case "table":
                return tell(a[0]);
            case "person":
                aPerson(a[0]);
                must(a[1] >= 0 && a[1] <= 5, 1);
                int[] row = t.of("person").get(a[0]);
                return new int[] {now.hunger[a[0]], row[3], row[1], now.streak[a[0]],
                    now.dead[a[0]] ? 1 : 0, now.bidden[a[0]] ? 1 : 0}[a[1]];
            case "name":
                aName(a[0]);
                must(a[1] >= 0 && a[1] <= 1, 1);
                return a[1] == 0 ? t.of("name").get(a[0])[1] : now.worth[a[0]];
            case "left":
                table();
                return now.left;
            case "seen":
                aPerson(a[0]);
                return now.dead[a[0]] ? -2 : seenOf(now, a[0]);
            case "calls":
                aPerson(a[0]);
                return now.dead[a[0]] ? -2 : nameOf(seenOf(now, a[0]));
            case "namer":
                table();
                return days(1).get(0).namer;
            case "dish":
                table();
                return days(1).get(0).dish;
            case "share":
                aPerson(a[0]);
                return days(1).get(0).ate[a[0]];
            case "nameWith":
                table();
                within(a[0], 0, 999);
                return guestName(a[0]);
            case "guestFor":
                aName(a[0]);
                return guestFor(a[0]);
            default:
                return toCome(f, a);
        }
    }

    int guestName(int h) {
        boolean most = living(now).stream().allMatch(p -> seenOf(now, p) < h);
        return most ? nameOf(h) : days(1).get(0).dish;
    }

    int guestFor(int k) {
        if (days(1).get(0).dish == k) {
            return -2;
        }
        for (int h = 0; h <= 999; h++) {
            if (guestName(h) == k) {
                return h;
            }
        }
        return -2;
    }

    long tell(int n) {
        within(n, 0, tape.length());
        String text = tape.substring(0, n);
        tape = "";
        fault = 0;
        try {
            t = read(text);
        } catch (Fault e) {
            fault = e.number;
            place = e.place;
            throw new Refusal(4);
        }
        now = begin(t, 0);
        past.clear();
        images.clear();
        return t.people();
    }

    long toCome(String f, int[] a) {
        switch (f) {
            case "namerIn":
            case "dishIn":
                table();
                within(a[0], 1, 60);
                Day d = days(a[0]).get(a[0] - 1);
                return f.equals("namerIn") ? d.namer : d.dish;
            case "hungerIn":
                aPerson(a[0]);
                within(a[1], 0, 60);
                return behind(a[1]).hunger[a[0]];
            case "eats":
                aPerson(a[0]);
                within(a[1], 0, 60);
                return days(a[1]).stream().mapToInt(x -> x.ate[a[0]]).sum();
            case "says":
                aPerson(a[0]);
                within(a[1], 0, 60);
                return days(a[1]).stream().filter(x -> x.namer == a[0]).count();
            case "deadIn":
                aPerson(a[0]);
                for (int n = 0; n <= 60; n++) {
                    if (behind(n).dead[a[0]]) {
                        return n;
                    }
                }
                return -2;
            case "firstDish":
                aName(a[0]);
                for (int n = 1; n <= 60; n++) {
                    if (days(n).get(n - 1).dish == a[0]) {
                        return n;
                    }
                }
                return -2;
            case "leftIn":
            case "livingIn":
            case "hungriestIn":
            case "unevenIn":
            case "named":
            case "worthIn":
            case "bowlFor":
                table();
                within(a[0], 0, 60);
                return then(f, a[0]);
            default:
                return wise(f, a);
        }
    }

    long then(String f, int n) {
        State s = behind(n);
        List<Integer> alive = living(s);
        List<Integer> byHunger = new ArrayList<>(alive);
        byHunger.sort(Comparator.comparingInt(p -> -s.hunger[p]));
        switch (f) {
            case "leftIn":
                return s.left;
            case "livingIn":
                return alive.stream().mapToInt(p -> 1 << p).sum();
            case "hungriestIn":
                return alive.isEmpty() ? -2 : byHunger.get(0);
            case "unevenIn":
                return alive.isEmpty() ? 0 : s.hunger[byHunger.get(0)] - s.hunger[byHunger.get(alive.size() - 1)];
            case "named":
                return days(n).stream().mapToInt(x -> x.dish < 0 ? 0 : 1 << x.dish).reduce(0, (x, y) -> x | y);
            case "worthIn":
                return days(n).stream().mapToInt(x -> worth(now, x.dish)).sum();
            default:
                for (int b = 1; b <= 20; b++) {
                    State w = now;
                    for (int i = 0; i < n; i++) {
                        w = pass(w, 0, false, b).then;
                    }
                    if (w.deadBits() == now.deadBits()) {
                        return b;
                    }
                }
                return -2;
        }
    }

    int[] fastsOf(int k, int n) {
        int[] best = null;
        for (int bits = 0; bits < 1 << 5 * n; bits++) {
            if (best != null && Integer.bitCount(bits) >= best[0]) {
                continue;
            }
            State s = now;
            boolean ok = true;
            for (int i = 0; i < n && ok; i++) {
                int more = bits >> 5 * i & 31;
                for (int p = 0; p < 5; p++) {
                    ok &= (more >> p) % 2 == 0 || p < t.people() && !now.dead[p] && !fasts(s, p);
                }
                if (ok) {
                    Day d = pass(s, more, false, bowl());
                    ok = d.then.deadBits() == s.deadBits() && (i < n - 1 || d.dish == k);
                    s = d.then;
                }
            }
            if (ok) {
                best = new int[] {Integer.bitCount(bits), bits};
            }
        }
        return best == null ? new int[] {-2, -2} : best;
    }

    int[] bestFastOf() {
        int[] best = null;
        for (int count = 0; count <= 5; count++) {
            for (int bits = 0; bits < 32; bits++) {
                boolean ok = Integer.bitCount(bits) == count;
                for (int p = 0; p < 5; p++) {
                    ok &= (bits >> p) % 2 == 0 || p < t.people() && !now.dead[p] && !fasts(now, p);
                }
                if (ok) {
                    State s = pass(now, bits, false, bowl()).then;
                    int w = worth(now, pass(s, 0, false, bowl()).dish);
                    if (best == null || w > best[1]) {
                        best = new int[] {bits, w};
                    }
                }
            }
        }
        return best;
    }

    int[] tablesOf() {
        List<Integer> alive = living(now);
        int[] best = {0, 0};
        for (int bits = 1; bits < 32; bits++) {
            int part = bits;
            boolean ok = !alive.isEmpty() && (bits >> alive.get(0)) % 2 == 1;
            for (int p = 0; p < 5; p++) {
                ok &= (part >> p) % 2 == 0 || alive.contains(p);
            }
            if (ok) {
                int w = 0;
                for (int side = 0; side < 2; side++) {
                    int here = side;
                    w += alive.stream().filter(p -> (part >> p) % 2 == here)
                        .max(Comparator.comparingInt((Integer p) -> seenOf(now, p)))
                        .map(p -> worth(now, nameOf(seenOf(now, p)))).orElse(0);
                }
                if (best[0] == 0 || w > best[1]) {
                    best = new int[] {bits, w};
                }
            }
        }
        return best;
    }

    int unlike(int others) {
        State s = begin(t, others);
        int[] dishes = new int[61];
        for (int i = 1; i <= 60; i++) {
            Day d = pass(s, 0, false, bowl());
            dishes[i] = d.dish;
            s = d.then;
        }
        for (int h = 0; h < t.of("heard").size(); h++) {
            if (dishes[t.of("heard").get(h)[1]] != t.of("heard").get(h)[0]) {
                return h;
            }
        }
        return -2;
    }

    List<Integer> fitsOf() {
        List<Integer> all = new ArrayList<>();
        for (int set = 0; set < 1 << t.of("unsure").size(); set++) {
            if (unlike(set) == -2) {
                all.add(set);
            }
        }
        return all;
    }

    int[] askOf() {
        List<Integer> all = fitsOf();
        int[] best = {-2, -2};
        for (int u = 0; u < t.of("unsure").size() && !all.isEmpty(); u++) {
            int it = u;
            int yes = (int) all.stream().filter(x -> (x >> it) % 2 == 1).count();
            int most = Math.max(yes, all.size() - yes);
            if (best[0] < 0 || most < best[1]) {
                best = new int[] {u, most};
            }
        }
        return best;
    }

    long wise(String f, int[] a) {
        switch (f) {
            case "fastsFor":
            case "fastsAt":
                aName(a[0]);
                within(a[1], 1, 3);
                return fastsOf(a[0], a[1])[f.equals("fastsFor") ? 0 : 1];
            case "bestFast":
            case "bestWorth":
                table();
                return bestFastOf()[f.equals("bestFast") ? 0 : 1];
            case "tables":
            case "tablesWorth":
                table();
                return tablesOf()[f.equals("tables") ? 0 : 1];
            case "fits":
                table();
                return fitsOf().size();
            case "fitAt":
                table();
                must(a[0] >= 0 && a[0] < fitsOf().size(), 1);
                return fitsOf().get(a[0]);
            case "could":
                table();
                return fitsOf().stream().reduce(0, (x, y) -> x | y);
            case "surely":
                table();
                return fitsOf().isEmpty() ? 0 : fitsOf().stream().reduce(-1, (x, y) -> x & y);
            case "ask":
                table();
                return askOf()[0];
            case "askLeaves":
                table();
                return askOf()[1];
            case "judge":
                table();
                return unlike(0);
            case "takes":
            case "rests":
            case "rest":
                table();
                within(a[0], 0, 9);
                return game(f, a);
            case "odds":
            case "mean":
            case "drawn":
                return chance(f, a);
            default:
                return act(f, a);
        }
    }

    static int[] pay(int shame, int cook, int glutton) {
        int[][][] all = {{{1, 1}, {-1, 3}}, {{3, -1}, {-shame, -shame}}};
        return all[cook][glutton];
    }

    long game(String f, int[] a) {
        if (f.equals("takes")) {
            return pay(a[0], a[1], a[2])[a[3]];
        }
        List<Integer> all = new ArrayList<>();
        for (int c = 0; c < 2; c++) {
            for (int g = 0; g < 2; g++) {
                if (pay(a[0], 1 - c, g)[0] <= pay(a[0], c, g)[0] && pay(a[0], c, 1 - g)[1] <= pay(a[0], c, g)[1]) {
                    all.add(10 * c + g);
                }
            }
        }
        return f.equals("rests") ? all.size() : all.isEmpty() ? -2 : all.get(0);
    }

    /** The upper WHOLE over 100 to the n-th: of the name k, or of worths if k is -1. */
    BigInteger upper(State s, int k, int n, int dish) {
        if (n == 0) {
            return BigInteger.valueOf(k < 0 ? worth(now, dish) : dish == k ? 1 : 0);
        }
        int flinch = t.of("table").get(0)[2];
        Day no = pass(s, 0, false, bowl());
        Day yes = pass(s, 0, true, bowl());
        return upper(no.then, k, n - 1, no.dish).multiply(BigInteger.valueOf(100 - flinch))
            .add(upper(yes.then, k, n - 1, yes.dish).multiply(BigInteger.valueOf(flinch)));
    }

    long chance(String f, int[] a) {
        if (f.equals("drawn")) {
            table();
            within(a[0], 0, 65536);
            within(a[1], 1, 60);
            long seed = a[0];
            State s = now;
            int dish = -2;
            for (int i = 0; i < a[1]; i++) {
                seed = (75 * seed + 74) % 65537;
                Day d = pass(s, 0, seed % 100 < t.of("table").get(0)[2], bowl());
                dish = d.dish;
                s = d.then;
            }
            return dish;
        }
        int n = f.equals("odds") ? a[1] : a[0];
        if (f.equals("odds")) {
            aName(a[0]);
        } else {
            table();
        }
        within(n, 1, 6);
        BigInteger up = upper(now, f.equals("odds") ? a[0] : -1, n, -2);
        BigInteger low = BigInteger.valueOf(100).pow(n);
        BigInteger by = up.gcd(low);
        return (a[a.length - 1] == 1 ? low : up).divide(by).longValueExact();
    }

    void acted() {
        past.addLast(now.copy());
        if (past.size() > 16) {
            past.removeFirst();
        }
    }

    long act(String f, int[] a) {
        switch (f) {
            case "day":
                table();
                must(now.gone < 999, 3);
                acted();
                Day d = pass(now, 0, false, bowl());
                now = d.then;
                return d.dish;
            case "bid":
                aPerson(a[0]);
                must(!now.dead[a[0]], 5);
                acted();
                now.bidden[a[0]] = !now.bidden[a[0]];
                return now.bidden[a[0]] ? 1 : 0;
            case "give":
                aPerson(a[0]);
                within(a[1], 1, 99);
                must(!now.dead[a[0]] && now.hunger[a[0]] > 0, 5);
                acted();
                now.hunger[a[0]] = Collections.max(List.of(0, now.hunger[a[0]] - a[1]));
                return now.hunger[a[0]];
            case "pour":
                table();
                within(a[0], 1, 99);
                must(now.left + a[0] <= 99, 3);
                acted();
                now.left += a[0];
                return now.left;
            case "value":
                aName(a[0]);
                within(a[1], 0, 20);
                must(now.worth[a[0]] != a[1], 5);
                acted();
                int old = now.worth[a[0]];
                now.worth[a[0]] = a[1];
                return old;
            case "undo":
                must(!past.isEmpty(), 6);
                now = past.removeLast();
                return 1;
            case "image":
                table();
                must(images.size() < 3, 3);
                images.add(now.copy());
                return images.size() - 1;
            case "back":
                must(a[0] >= 0 && a[0] < images.size(), 1);
                now = images.get(a[0]).copy();
                past.clear();
                return 1;
            default:
                throw new IllegalStateException(f);
        }
    }
}
