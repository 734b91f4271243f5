import java.util.Arrays;
import java.util.NoSuchElementException;

/** The hungriest names the dish. The document's promises say what each call answers. */
public final class LeanTable {
    public static final int NONE = -1;

    private static final int NOBODY = -2;
    private static final int NO_TAKING = -100;

    private static final int MOST_PEOPLE = 5;
    private static final int MOST_NAMES = 8;
    private static final int MOST_FASTS = 8;
    private static final int MOST_UNSURE = 4;
    private static final int MOST_HEARD = 6;
    private static final int MOST_BYTES = 700;
    private static final int MOST_PORTIONS = 99;
    private static final int MOST_BOWL = 20;
    private static final int MOST_WORTH = 20;
    private static final int MOST_GIFT = 99;
    private static final int MOST_SHAME = 9;
    private static final int MOST_GUEST = 999;
    private static final int MOST_DAYS = 999;
    private static final int MOST_SEED = 65536;
    private static final int DAYS_AHEAD = 60;
    private static final int DAYS_TO_FAST = 3;
    private static final int DAYS_OF_CHANCE = 6;
    private static final int IMAGES_KEPT = 3;
    private static final int ACTS_KEPT = 16;

    private static final int PLAIN = 0;
    private static final int POET = 1;
    private static final int CHILD = 2;

    private static final int NONE_SUCH = 1;
    private static final int BAD_NUMBER = 2;
    private static final int NO_ROOM = 3;
    private static final int FAULTY = 4;
    private static final int NOT_SO = 5;
    private static final int NOTHING = 6;

    private final Reader reader = new Reader();
    private final Course course = new Course();
    private final FastSearch search = new FastSearch();
    private final Hearsay hearsay = new Hearsay();
    private final Chances chances = new Chances();
    private final History history = new History();
    private final Images images = new Images();
    private final Meal meal = new Meal();
    private final Plight now = new Plight();
    private Told told = new Told();
    private Told spare = new Told();
    private int lastTrouble;
    private int lastFault;

    public LeanTable() {
    }

    // ---- the table

    public int feed(int a, int b, int c, int d, int e) {
        if (!reader.hasRoom(20)) {
            return NONE;
        }
        reader.append(a);
        reader.append(b);
        reader.append(c);
        reader.append(d);
        reader.append(e);
        return reader.bytes;
    }

    public int table(int n) {
        if (n < 0 || n > reader.bytes) {
            return refuse(BAD_NUMBER);
        }
        boolean good = reader.read(n, spare);
        reader.bytes = 0;
        lastFault = reader.faultNumber;
        if (!good) {
            return refuse(FAULTY);
        }
        Told old = told;
        told = spare;
        spare = old;
        now.begin(told, 0);
        history.forget();
        images.forget();
        return answer(told.people);
    }

    public int fault() {
        return lastFault;
    }

    public int where() {
        return lastTrouble == FAULTY ? reader.faultPlace : NONE;
    }

    // ---- now

    public int person(int p, int what) {
        if (lacksPerson(p)) {
            return refuse(NONE_SUCH);
        }
        switch (what) {
            case 0:
                return answer(now.hunger[p]);
            case 1:
                return answer(told.need[p]);
            case 2:
                return answer(told.kind[p]);
            case 3:
                return answer(now.fasted[p]);
            case 4:
                return answer(now.dead >> p & 1);
            case 5:
                return answer(now.bidden >> p & 1);
            default:
                return refuse(NONE_SUCH);
        }
    }

    public int name(int k, int what) {
        if (lacksName(k) || what < 0 || what > 1) {
            return refuse(NONE_SUCH);
        }
        return answer(what == 0 ? told.from[k] : now.worth[k]);
    }

    public int left() {
        if (lacksTable()) {
            return refuse(NONE_SUCH);
        }
        return answer(now.portions);
    }

    // ---- the next day

    public int seen(int p) {
        if (lacksPerson(p)) {
            return refuse(NONE_SUCH);
        }
        return answer(now.isDead(p) ? NOBODY : now.seenHunger(told, p));
    }

    public int calls(int p) {
        if (lacksPerson(p)) {
            return refuse(NONE_SUCH);
        }
        return answer(now.isDead(p) ? NOBODY : told.nameSeen(now.seenHunger(told, p)));
    }

    public int namer() {
        if (lacksTable()) {
            return refuse(NONE_SUCH);
        }
        return answer(now.whoNames(told, false));
    }

    public int dish() {
        if (lacksTable()) {
            return refuse(NONE_SUCH);
        }
        return answer(now.nextDish(told, false));
    }

    public int share(int p) {
        if (lacksPerson(p)) {
            return refuse(NONE_SUCH);
        }
        course.walk(told, now, 1);
        return answer(course.ate[p]);
    }

    public int nameWith(int hunger) {
        if (isRefused(lacksTable(), hunger, 0, MOST_GUEST)) {
            return NONE;
        }
        return dishWithGuest(hunger);
    }

    public int guestFor(int k) {
        if (lacksName(k)) {
            return refuse(NONE_SUCH);
        }
        // Of a from that the namer reaches, the dish has the name already, or one that a hungrier guest reaches, too.
        return answer(told.from[k] > greatestSeen() ? told.from[k] : NOBODY);
    }

    // ---- days to come

    public int namerIn(int n) {
        if (isRefused(lacksTable(), n, 1, DAYS_AHEAD)) {
            return NONE;
        }
        course.walk(told, now, n);
        return course.meal.who;
    }

    public int dishIn(int n) {
        if (isRefused(lacksTable(), n, 1, DAYS_AHEAD)) {
            return NONE;
        }
        course.walk(told, now, n);
        return course.meal.what;
    }

    public int hungerIn(int p, int n) {
        if (isRefused(lacksPerson(p), n, 0, DAYS_AHEAD)) {
            return NONE;
        }
        course.walk(told, now, n);
        return course.plight.hunger[p];
    }

    public int leftIn(int n) {
        if (isRefused(lacksTable(), n, 0, DAYS_AHEAD)) {
            return NONE;
        }
        course.walk(told, now, n);
        return course.plight.portions;
    }

    public int livingIn(int n) {
        if (isRefused(lacksTable(), n, 0, DAYS_AHEAD)) {
            return NONE;
        }
        course.walk(told, now, n);
        return course.plight.living(told);
    }

    public int hungriestIn(int n) {
        if (isRefused(lacksTable(), n, 0, DAYS_AHEAD)) {
            return NONE;
        }
        course.walk(told, now, n);
        return course.plight.hungriest(told);
    }

    public int unevenIn(int n) {
        if (isRefused(lacksTable(), n, 0, DAYS_AHEAD)) {
            return NONE;
        }
        course.walk(told, now, n);
        return course.plight.unevenness(told);
    }

    public int deadIn(int p) {
        if (lacksPerson(p)) {
            return refuse(NONE_SUCH);
        }
        course.start(now);
        for (int n = 0; n <= DAYS_AHEAD; n++) {
            if (course.plight.isDead(p)) {
                return answer(n);
            }
            course.pass(told, told.bowl);
        }
        return answer(NOBODY);
    }

    public int eats(int p, int n) {
        if (isRefused(lacksPerson(p), n, 0, DAYS_AHEAD)) {
            return NONE;
        }
        course.walk(told, now, n);
        return course.ate[p];
    }

    public int says(int p, int n) {
        if (isRefused(lacksPerson(p), n, 0, DAYS_AHEAD)) {
            return NONE;
        }
        course.walk(told, now, n);
        return course.said[p];
    }

    public int firstDish(int k) {
        if (lacksName(k)) {
            return refuse(NONE_SUCH);
        }
        course.start(now);
        for (int n = 1; n <= DAYS_AHEAD; n++) {
            course.pass(told, told.bowl);
            if (course.meal.what == k) {
                return answer(n);
            }
        }
        return answer(NOBODY);
    }

    public int named(int n) {
        if (isRefused(lacksTable(), n, 0, DAYS_AHEAD)) {
            return NONE;
        }
        course.walk(told, now, n);
        return course.dishes;
    }

    public int worthIn(int n) {
        if (isRefused(lacksTable(), n, 0, DAYS_AHEAD)) {
            return NONE;
        }
        course.walk(told, now, n);
        return course.worthTogether;
    }

    // ---- who should fast

    public int fastsFor(int k, int n) {
        if (isRefused(lacksName(k), n, 1, DAYS_TO_FAST)) {
            return NONE;
        }
        search.seekName(told, now, k, n);
        return search.isFound() ? search.bestCount : NOBODY;
    }

    public int fastsAt(int k, int n) {
        if (isRefused(lacksName(k), n, 1, DAYS_TO_FAST)) {
            return NONE;
        }
        search.seekName(told, now, k, n);
        return search.isFound() ? search.bestBits : NOBODY;
    }

    public int bestFast() {
        if (lacksTable()) {
            return refuse(NONE_SUCH);
        }
        search.seekWorth(told, now);
        return answer(search.bestBits);
    }

    public int bestWorth() {
        if (lacksTable()) {
            return refuse(NONE_SUCH);
        }
        search.seekWorth(told, now);
        return answer(search.mostWorth);
    }

    public int tables() {
        if (lacksTable()) {
            return refuse(NONE_SUCH);
        }
        return answer(bestFirstTable());
    }

    public int tablesWorth() {
        if (lacksTable()) {
            return refuse(NONE_SUCH);
        }
        return answer(worthOfTables(bestFirstTable()));
    }

    public int bowlFor(int n) {
        if (isRefused(lacksTable(), n, 0, DAYS_AHEAD)) {
            return NONE;
        }
        for (int bowl = 1; bowl <= MOST_BOWL; bowl++) {
            if (bowlKeepsAll(bowl, n)) {
                return bowl;
            }
        }
        return NOBODY;
    }

    // ---- unsure hungers

    public int fits() {
        if (lacksTable()) {
            return refuse(NONE_SUCH);
        }
        hearsay.weigh(told);
        return answer(hearsay.count);
    }

    public int fitAt(int i) {
        if (lacksTable() || i < 0) {
            return refuse(NONE_SUCH);
        }
        hearsay.weigh(told);
        int set = hearsay.setAt(i);
        return set < 0 ? refuse(NONE_SUCH) : answer(set);
    }

    public int could() {
        if (lacksTable()) {
            return refuse(NONE_SUCH);
        }
        hearsay.weigh(told);
        return answer(hearsay.inSome);
    }

    public int surely() {
        if (lacksTable()) {
            return refuse(NONE_SUCH);
        }
        hearsay.weigh(told);
        return answer(hearsay.inAll);
    }

    public int ask() {
        if (lacksTable()) {
            return refuse(NONE_SUCH);
        }
        hearsay.weigh(told);
        return answer(hearsay.whomToAsk(told));
    }

    public int askLeaves() {
        if (lacksTable()) {
            return refuse(NONE_SUCH);
        }
        hearsay.weigh(told);
        int unsure = hearsay.whomToAsk(told);
        return answer(unsure < 0 ? NOBODY : hearsay.leftAtMost(unsure));
    }

    public int judge() {
        if (lacksTable()) {
            return refuse(NONE_SUCH);
        }
        return answer(hearsay.firstUnlike(told, 0));
    }

    // ---- cook and glutton

    public int takes(int shame, boolean cook, boolean glutton, boolean ofGlutton) {
        if (isRefused(lacksTable(), shame, 0, MOST_SHAME)) {
            return NO_TAKING;
        }
        return ofGlutton ? gain(shame, glutton, cook) : gain(shame, cook, glutton);
    }

    public int rests(int shame) {
        if (isRefused(lacksTable(), shame, 0, MOST_SHAME)) {
            return NONE;
        }
        int count = 0;
        for (int pair = 0; pair < 4; pair++) {
            count += isRest(shame, pair >= 2, pair % 2 == 1) ? 1 : 0;
        }
        return count;
    }

    public int rest(int shame) {
        if (isRefused(lacksTable(), shame, 0, MOST_SHAME)) {
            return NONE;
        }
        for (int pair = 0; pair < 4; pair++) {
            if (isRest(shame, pair >= 2, pair % 2 == 1)) {
                return pair / 2 * 10 + pair % 2;
            }
        }
        return NOBODY;
    }

    // ---- who flinches

    public long odds(int k, int n, boolean lower) {
        if (isRefused(lacksName(k), n, 1, DAYS_OF_CHANCE)) {
            return NONE;
        }
        chances.weigh(told, now, n);
        return Chances.lowest(chances.weight[k], chances.whole, lower);
    }

    public long mean(int n, boolean lower) {
        if (isRefused(lacksTable(), n, 1, DAYS_OF_CHANCE)) {
            return NONE;
        }
        chances.weigh(told, now, n);
        return Chances.lowest(chances.weightOfWorths(told, now), chances.whole, lower);
    }

    public int drawn(int seed, int n) {
        if (isRefused(lacksTable(), n, 1, DAYS_AHEAD)) {
            return NONE;
        }
        if (isOutside(seed, 0, MOST_SEED)) {
            return refuse(BAD_NUMBER);
        }
        return answer(chances.dishByDraws(told, now, seed, n));
    }

    // ---- acts

    public int day() {
        if (lacksTable()) {
            return refuse(NONE_SUCH);
        }
        if (now.days >= MOST_DAYS) {
            return refuse(NO_ROOM);
        }
        history.keep(now);
        meal.hold(told, now, 0, false, told.bowl);
        return answer(meal.what);
    }

    public int bid(int p) {
        if (lacksPerson(p)) {
            return refuse(NONE_SUCH);
        }
        if (now.isDead(p)) {
            return refuse(NOT_SO);
        }
        history.keep(now);
        now.bidden ^= 1 << p;
        return answer(now.bidden >> p & 1);
    }

    public int give(int p, int much) {
        if (isRefused(lacksPerson(p), much, 1, MOST_GIFT)) {
            return NONE;
        }
        if (now.isDead(p) || now.hunger[p] == 0) {
            return refuse(NOT_SO);
        }
        history.keep(now);
        now.hunger[p] = Math.max(0, now.hunger[p] - much);
        return answer(now.hunger[p]);
    }

    public int pour(int much) {
        if (isRefused(lacksTable(), much, 1, MOST_PORTIONS)) {
            return NONE;
        }
        if (now.portions + much > MOST_PORTIONS) {
            return refuse(NO_ROOM);
        }
        history.keep(now);
        now.portions += much;
        return answer(now.portions);
    }

    public int value(int k, int worth) {
        if (isRefused(lacksName(k), worth, 0, MOST_WORTH)) {
            return NONE;
        }
        int old = now.worth[k];
        if (old == worth) {
            return refuse(NOT_SO);
        }
        history.keep(now);
        now.worth[k] = worth;
        return answer(old);
    }

    public boolean undo() {
        boolean done = history.takeBack(now);
        lastTrouble = done ? 0 : NOTHING;
        return done;
    }

    public int image() {
        if (lacksTable()) {
            return refuse(NONE_SUCH);
        }
        int number = images.keep(now);
        return number < 0 ? refuse(NO_ROOM) : answer(number);
    }

    public boolean back(int image) {
        boolean done = images.show(image, now);
        if (done) {
            history.forget();
        }
        lastTrouble = done ? 0 : NONE_SUCH;
        return done;
    }

    // ---- what is told

    public int led(int i) throws NoSuchElementException {
        int ahead = i;
        for (int p = 0; p < told.people && ahead >= 0; p++) {
            if (now.isDead(p)) {
                if (ahead == 0) {
                    return p;
                }
                ahead--;
            }
        }
        throw new NoSuchElementException();
    }

    public int size(int what) {
        switch (what) {
            case 0:
                return told.bowl;
            case 1:
                return told.starve;
            case 2:
                return told.flinch;
            case 3:
                return told.people;
            case 4:
                return told.names;
            case 5:
                return told.fasts;
            case 6:
                return told.unsure;
            case 7:
                return told.heard;
            case 8:
                return now.days;
            case 9:
                return history.count;
            case 10:
                return images.count;
            case 11:
                return reader.bytes;
            default:
                return NONE;
        }
    }

    public int trouble() {
        return lastTrouble;
    }

    // ---- answers and refusals

    private int answer(int it) {
        lastTrouble = 0;
        return it;
    }

    private int refuse(int why) {
        lastTrouble = why;
        return NONE;
    }

    /** A TABLE has somebody at it always, so that nobody at all means that there is none. */
    private boolean lacksTable() {
        return told.people == 0;
    }

    private boolean lacksPerson(int p) {
        return p < 0 || p >= told.people;
    }

    private boolean lacksName(int k) {
        return k < 0 || k >= told.names;
    }

    private static boolean isOutside(int it, int least, int most) {
        return it < least || it > most;
    }

    /** Tells the TROUBLE of a call that needs something and a number within bounds: none, 1 or 2. */
    private boolean isRefused(boolean lacks, int it, int least, int most) {
        if (lacks) {
            lastTrouble = NONE_SUCH;
        } else {
            lastTrouble = isOutside(it, least, most) ? BAD_NUMBER : 0;
        }
        return lastTrouble != 0;
    }

    // ---- guests, tables, bowls

    /** Less than any guest's hunger if nobody lives, so that every guest names then. */
    private int greatestSeen() {
        int p = now.whoNames(told, false);
        return p < 0 ? -1 : now.seenHunger(told, p);
    }

    private int dishWithGuest(int hunger) {
        int most = greatestSeen();
        return told.nameSeen(hunger > most ? hunger : most);
    }

    private int bestFirstTable() {
        int living = now.living(told);
        int first = living & -living;
        int best = 0;
        int most = -1;
        for (int part = first; part <= living; part++) {
            boolean may = (part & ~living) == 0 && (part & first) == first;
            if (may && worthOfTables(part) > most) {
                best = part;
                most = worthOfTables(part);
            }
        }
        return best;
    }

    private int worthOfTables(int part) {
        int living = now.living(told);
        return worthNamedBy(living & part) + worthNamedBy(living & ~part);
    }

    private int worthNamedBy(int people) {
        int p = now.mostSeen(told, people);
        return p < 0 ? 0 : now.worthOf(told.nameSeen(now.seenHunger(told, p)));
    }

    private boolean bowlKeepsAll(int bowl, int n) {
        course.start(now);
        for (int i = 0; i < n && course.plight.dead == now.dead; i++) {
            course.pass(told, bowl);
        }
        return course.plight.dead == now.dead;
    }

    // ---- cook and glutton, each alone

    private static int gain(int shame, boolean own, boolean other) {
        if (own) {
            return other ? -shame : 3;
        }
        return other ? -1 : 1;
    }

    private static boolean isRest(int shame, boolean cook, boolean glutton) {
        return gain(shame, cook, glutton) >= gain(shame, !cook, glutton)
                && gain(shame, glutton, cook) >= gain(shame, !glutton, cook);
    }

    /** The TABLE as its text told it; no call changes it. */
    private static final class Told {
        int bowl;
        int starve;
        int flinch;
        int people;
        int names;
        int fasts;
        int unsure;
        int heard;
        final int[] hunger = new int[MOST_PEOPLE];
        final int[] need = new int[MOST_PEOPLE];
        final int[] kind = new int[MOST_PEOPLE];
        final int[] from = new int[MOST_NAMES];
        final int[] worth = new int[MOST_NAMES];
        final int[] fastWho = new int[MOST_FASTS];
        final int[] fastDay = new int[MOST_FASTS];
        final int[] unsureWho = new int[MOST_UNSURE];
        final int[] unsureHunger = new int[MOST_UNSURE];
        final int[] heardName = new int[MOST_HEARD];
        final int[] heardDay = new int[MOST_HEARD];

        void clear() {
            bowl = 0;
            starve = 0;
            flinch = 0;
            people = 0;
            names = 0;
            fasts = 0;
            unsure = 0;
            heard = 0;
        }

        /** The name of the greatest from that so much SEEN hunger reaches. */
        int nameSeen(int seenHunger) {
            int best = NOBODY;
            for (int k = 0; k < names; k++) {
                if (from[k] <= seenHunger && (best < 0 || from[k] > from[best])) {
                    best = k;
                }
            }
            return best;
        }

        boolean hasFrom(int least) {
            for (int k = 0; k < names; k++) {
                if (from[k] == least) {
                    return true;
                }
            }
            return false;
        }

        int fastingOn(int day) {
            int bits = 0;
            for (int i = 0; i < fasts; i++) {
                if (fastDay[i] == day) {
                    bits |= 1 << fastWho[i];
                }
            }
            return bits;
        }

        boolean isUnsure(int p) {
            for (int u = 0; u < unsure; u++) {
                if (unsureWho[u] == p) {
                    return true;
                }
            }
            return false;
        }

        boolean isHeardOn(int day) {
            for (int h = 0; h < heard; h++) {
                if (heardDay[h] == day) {
                    return true;
                }
            }
            return false;
        }

        int lastHeardDay() {
            int last = 0;
            for (int h = 0; h < heard; h++) {
                last = Math.max(last, heardDay[h]);
            }
            return last;
        }
    }

    /** THE TAPE, and the reading of its text into a TABLE. */
    private static final class Reader {
        private static final int AT_END = 0;
        private static final int NO_TOKEN = 1;
        private static final int WORD = 2;
        private static final int WHOLE = 3;
        private static final int MARK = 4;

        private static final int FORM = 1;
        private static final int UNTOLD = 2;
        private static final int AGAIN = 3;
        private static final int BOUNDS = 4;
        private static final int MANY = 5;
        private static final int LACKS = 6;

        private static final int LINE_TABLE = 0;
        private static final int LINE_PERSON = 1;
        private static final int LINE_NAME = 2;
        private static final int LINE_FAST = 3;
        private static final int LINE_UNSURE = 4;
        private static final int LINE_HEARD = 5;

        private static final int LONGEST_WORD = 8;
        private static final int LONGEST_WHOLE = 3;

        int bytes;
        int faultNumber;
        int faultPlace;
        private final byte[] tape = new byte[MOST_BYTES];
        private final int[] wordStart = new int[MOST_PEOPLE + MOST_NAMES];
        private final int[] wordEnd = new int[MOST_PEOPLE + MOST_NAMES];
        private final boolean[] wordIsPerson = new boolean[MOST_PEOPLE + MOST_NAMES];
        private final int[] wordNumber = new int[MOST_PEOPLE + MOST_NAMES];
        private int words;
        private int end;
        private int start;
        private int stop;
        private int token;
        private int whole;
        private boolean tabled;

        boolean hasRoom(int more) {
            return bytes + more <= MOST_BYTES;
        }

        void append(int four) {
            for (int shift = 24; shift >= 0 && bytes < MOST_BYTES; shift -= 8) {
                tape[bytes] = (byte) (four >> shift);
                bytes++;
            }
        }

        boolean read(int n, Told into) {
            into.clear();
            end = Math.min(n, MOST_BYTES);
            stop = 0;
            words = 0;
            tabled = false;
            faultNumber = 0;
            faultPlace = NONE;
            step();
            boolean good = readLine(into);
            for (int lines = 0; lines < MOST_BYTES && good && token != AT_END; lines++) {
                if (token != MARK) {
                    return fail(FORM);
                }
                step();
                good = readLine(into);
            }
            if (good && (into.people == 0 || !into.hasFrom(0))) {
                good = fail(LACKS);
            }
            return good;
        }

        private boolean readLine(Told into) {
            int sort = lineSort();
            if (sort < 0) {
                return fail(FORM);
            }
            if (sort == LINE_TABLE && tabled) {
                return fail(AGAIN);
            }
            if (isFull(into, sort)) {
                return fail(MANY);
            }
            if (sort != LINE_TABLE && !tabled) {
                return fail(LACKS);
            }
            step();
            switch (sort) {
                case LINE_TABLE:
                    return readTable(into);
                case LINE_PERSON:
                    return readPerson(into);
                case LINE_NAME:
                    return readName(into);
                case LINE_FAST:
                    return readFast(into);
                case LINE_UNSURE:
                    return readUnsure(into);
                default:
                    return readHeard(into);
            }
        }

        private static boolean isFull(Told into, int sort) {
            switch (sort) {
                case LINE_PERSON:
                    return into.people >= MOST_PEOPLE;
                case LINE_NAME:
                    return into.names >= MOST_NAMES;
                case LINE_FAST:
                    return into.fasts >= MOST_FASTS;
                case LINE_UNSURE:
                    return into.unsure >= MOST_UNSURE;
                case LINE_HEARD:
                    return into.heard >= MOST_HEARD;
                default:
                    return false;
            }
        }

        private boolean readTable(Told into) {
            if (!findsWhole("bowl", 1, MOST_BOWL)) {
                return false;
            }
            into.bowl = whole;
            step();
            if (!findsWhole("starve", 5, 200)) {
                return false;
            }
            into.starve = whole;
            step();
            if (!findsWhole("flinch", 0, 100)) {
                return false;
            }
            into.flinch = whole;
            step();
            tabled = true;
            return true;
        }

        private boolean readPerson(Told into) {
            int p = into.people;
            if (!findsNewName(true, p)) {
                return false;
            }
            int kind = kindHere();
            if (kind < 0) {
                return fail(FORM);
            }
            into.kind[p] = kind;
            step();
            if (!findsWhole("hunger", 0, 99)) {
                return false;
            }
            into.hunger[p] = whole;
            step();
            if (!findsWhole("need", 1, 9)) {
                return false;
            }
            into.need[p] = whole;
            into.people++;
            step();
            return true;
        }

        private boolean readName(Told into) {
            int k = into.names;
            if (!findsNewName(false, k) || !findsWhole("from", 0, 200)) {
                return false;
            }
            if (into.hasFrom(whole)) {
                return fail(AGAIN);
            }
            into.from[k] = whole;
            step();
            if (!findsWhole("worth", 0, MOST_WORTH)) {
                return false;
            }
            into.worth[k] = whole;
            into.names++;
            step();
            return true;
        }

        private boolean readFast(Told into) {
            int word = toldNameHere(true);
            if (word < 0) {
                return false;
            }
            int p = wordNumber[word];
            step();
            if (!findsWhole("day", 1, DAYS_AHEAD)) {
                return false;
            }
            if ((into.fastingOn(whole) >> p & 1) == 1) {
                return fail(AGAIN);
            }
            into.fastWho[into.fasts] = p;
            into.fastDay[into.fasts] = whole;
            into.fasts++;
            step();
            return true;
        }

        private boolean readUnsure(Told into) {
            int word = toldNameHere(true);
            if (word < 0) {
                return false;
            }
            int p = wordNumber[word];
            if (into.isUnsure(p)) {
                return fail(AGAIN);
            }
            step();
            if (!isWholeWithin(0, 99)) {
                return false;
            }
            into.unsureWho[into.unsure] = p;
            into.unsureHunger[into.unsure] = whole;
            into.unsure++;
            step();
            return true;
        }

        private boolean readHeard(Told into) {
            int word = toldNameHere(false);
            if (word < 0) {
                return false;
            }
            int k = wordNumber[word];
            step();
            if (!findsWhole("day", 1, DAYS_AHEAD)) {
                return false;
            }
            if (into.isHeardOn(whole)) {
                return fail(AGAIN);
            }
            into.heardName[into.heard] = k;
            into.heardDay[into.heard] = whole;
            into.heard++;
            step();
            return true;
        }

        /** Goes past the WORD, but stays at the WHOLE: more may be wrong with it. */
        private boolean findsWhole(String word, int least, int most) {
            if (!isWord(word)) {
                return fail(FORM);
            }
            step();
            return isWholeWithin(least, most);
        }

        private boolean isWholeWithin(int least, int most) {
            if (token != WHOLE) {
                return fail(FORM);
            }
            if (whole < least || whole > most) {
                return fail(BOUNDS);
            }
            return true;
        }

        private boolean findsNewName(boolean ofPerson, int number) {
            if (token != WORD || lineSort() >= 0 || words >= wordStart.length) {
                return fail(FORM);
            }
            if (wordHere() >= 0) {
                return fail(AGAIN);
            }
            wordStart[words] = start;
            wordEnd[words] = stop;
            wordIsPerson[words] = ofPerson;
            wordNumber[words] = number;
            words++;
            step();
            return true;
        }

        private int toldNameHere(boolean ofPerson) {
            if (token != WORD || lineSort() >= 0) {
                fail(FORM);
                return NONE;
            }
            int word = wordHere();
            if (word < 0 || wordIsPerson[word] != ofPerson) {
                fail(UNTOLD);
                return NONE;
            }
            return word;
        }

        private int wordHere() {
            for (int w = 0; w < words; w++) {
                if (isSameWord(w)) {
                    return w;
                }
            }
            return NONE;
        }

        private boolean isSameWord(int w) {
            int length = stop - start;
            if (wordEnd[w] - wordStart[w] != length) {
                return false;
            }
            for (int i = 0; i < length; i++) {
                if (tape[wordStart[w] + i] != tape[start + i]) {
                    return false;
                }
            }
            return true;
        }

        private int kindHere() {
            if (isWord("plain")) {
                return PLAIN;
            }
            if (isWord("poet")) {
                return POET;
            }
            return isWord("child") ? CHILD : NONE;
        }

        private int lineSort() {
            if (isWord("table")) {
                return LINE_TABLE;
            }
            if (isWord("person")) {
                return LINE_PERSON;
            }
            if (isWord("name")) {
                return LINE_NAME;
            }
            if (isWord("fast")) {
                return LINE_FAST;
            }
            if (isWord("unsure")) {
                return LINE_UNSURE;
            }
            return isWord("heard") ? LINE_HEARD : NONE;
        }

        private boolean isWord(String word) {
            if (token != WORD || stop - start != word.length()) {
                return false;
            }
            for (int i = 0; i < word.length(); i++) {
                if (tape[start + i] != word.charAt(i)) {
                    return false;
                }
            }
            return true;
        }

        private void step() {
            start = stop;
            while (start < end && tape[start] == ' ') {
                start++;
            }
            stop = start;
            if (start >= end) {
                token = AT_END;
            } else if (tape[start] == ';') {
                token = MARK;
                stop = start + 1;
            } else if (isLetter(tape[start])) {
                takeWord();
            } else if (isDigit(tape[start])) {
                takeWhole();
            } else {
                token = NO_TOKEN;
            }
        }

        /** Letters more than a WORD may have make no WORD, and its first one begins none. */
        private void takeWord() {
            while (stop < end && isLetter(tape[stop])) {
                stop++;
            }
            token = stop - start <= LONGEST_WORD ? WORD : NO_TOKEN;
        }

        private void takeWhole() {
            while (stop < end && isDigit(tape[stop])) {
                stop++;
            }
            token = stop - start <= LONGEST_WHOLE ? WHOLE : NO_TOKEN;
            whole = 0;
            for (int i = start; i < stop && token == WHOLE; i++) {
                whole = whole * 10 + tape[i] - '0';
            }
        }

        private static boolean isLetter(byte b) {
            return b >= 'a' && b <= 'z';
        }

        private static boolean isDigit(byte b) {
            return b >= '0' && b <= '9';
        }

        private boolean fail(int number) {
            faultNumber = number;
            faultPlace = start;
            return false;
        }
    }

    /** How all stand between two DAYS. */
    private static final class Plight {
        final int[] hunger = new int[MOST_PEOPLE];
        final int[] fasted = new int[MOST_PEOPLE];
        final int[] worth = new int[MOST_NAMES];
        int dead;
        int bidden;
        int portions;
        int days;

        /** The beginning, the unsure people of these bits being of the other hunger. */
        void begin(Told told, int others) {
            System.arraycopy(told.hunger, 0, hunger, 0, MOST_PEOPLE);
            System.arraycopy(told.worth, 0, worth, 0, MOST_NAMES);
            Arrays.fill(fasted, 0);
            for (int u = 0; u < told.unsure; u++) {
                if ((others >> u & 1) == 1) {
                    hunger[told.unsureWho[u]] = told.unsureHunger[u];
                }
            }
            dead = 0;
            bidden = 0;
            portions = 0;
            days = 0;
        }

        void copy(Plight other) {
            System.arraycopy(other.hunger, 0, hunger, 0, MOST_PEOPLE);
            System.arraycopy(other.fasted, 0, fasted, 0, MOST_PEOPLE);
            System.arraycopy(other.worth, 0, worth, 0, MOST_NAMES);
            dead = other.dead;
            bidden = other.bidden;
            portions = other.portions;
            days = other.days;
        }

        boolean isDead(int p) {
            return (dead >> p & 1) == 1;
        }

        int living(Told told) {
            return (1 << told.people) - 1 & ~dead;
        }

        int fastingNext(Told told) {
            return bidden | told.fastingOn(days + 1);
        }

        /** Those who could still be asked to fast on the next DAY. */
        int freeToFast(Told told) {
            return living(told) & ~fastingNext(told);
        }

        /** Those who die on the next DAY if they eat nothing. */
        int endangered(Told told) {
            int bits = 0;
            for (int p = 0; p < told.people; p++) {
                bits |= !isDead(p) && hunger[p] + told.need[p] > told.starve ? 1 << p : 0;
            }
            return bits;
        }

        int seenHunger(Told told, int p) {
            int grown = hunger[p] + told.need[p];
            switch (told.kind[p]) {
                case POET:
                    return grown + 3 * fasted[p];
                case CHILD:
                    return 2 * grown;
                default:
                    return grown;
            }
        }

        int mostSeen(Told told, int among) {
            int best = NOBODY;
            int most = -1;
            for (int p = 0; p < told.people; p++) {
                if ((among >> p & 1) == 1 && seenHunger(told, p) > most) {
                    best = p;
                    most = seenHunger(told, p);
                }
            }
            return best;
        }

        int whoNames(Told told, boolean flinches) {
            int first = NOBODY;
            int next = NOBODY;
            for (int p = 0; p < told.people; p++) {
                if (isDead(p)) {
                    continue;
                }
                int seenOfOne = seenHunger(told, p);
                if (first < 0 || seenOfOne > seenHunger(told, first)) {
                    next = first;
                    first = p;
                } else if (next < 0 || seenOfOne > seenHunger(told, next)) {
                    next = p;
                }
            }
            return flinches && next >= 0 ? next : first;
        }

        int nextDish(Told told, boolean flinches) {
            int p = whoNames(told, flinches);
            return p < 0 ? NOBODY : told.nameSeen(seenHunger(told, p));
        }

        int worthOf(int dish) {
            return dish < 0 || dish >= MOST_NAMES ? 0 : worth[dish];
        }

        int hungriest(Told told) {
            int best = NOBODY;
            for (int p = 0; p < told.people; p++) {
                if (!isDead(p) && (best < 0 || hunger[p] > hunger[best])) {
                    best = p;
                }
            }
            return best;
        }

        int unevenness(Told told) {
            int top = hungriest(told);
            int uneven = 0;
            for (int p = 0; p < told.people && top >= 0; p++) {
                if (!isDead(p)) {
                    uneven = Math.max(uneven, hunger[top] - hunger[p]);
                }
            }
            return uneven;
        }

        void grow(Told told) {
            for (int p = 0; p < told.people; p++) {
                if (!isDead(p)) {
                    hunger[p] += told.need[p];
                }
            }
        }

        void close(Told told, int fasting) {
            for (int p = 0; p < told.people; p++) {
                if (!isDead(p)) {
                    fasted[p] = (fasting >> p & 1) == 1 ? fasted[p] + 1 : 0;
                    dead |= hunger[p] > told.starve ? 1 << p : 0;
                }
            }
            bidden = 0;
            days++;
        }
    }

    /** One DAY, and what it was like. */
    private static final class Meal {
        int who = NOBODY;
        int what = NOBODY;
        final int[] eaten = new int[MOST_PEOPLE];
        private final int[] order = new int[MOST_PEOPLE];

        void hold(Told told, Plight plight, int besides, boolean flinches, int bowl) {
            int fasting = plight.fastingNext(told) | besides;
            who = plight.whoNames(told, flinches);
            what = who < 0 ? NOBODY : told.nameSeen(plight.seenHunger(told, who));
            plight.grow(told);
            int eaters = seat(told, plight, plight.living(told) & ~fasting);
            plight.portions = Math.min(MOST_PORTIONS, plight.portions + bowl);
            serve(plight, eaters);
            plight.close(told, fasting);
        }

        private int seat(Told told, Plight plight, int eating) {
            int seated = 0;
            for (int p = 0; p < told.people; p++) {
                if ((eating >> p & 1) == 1) {
                    int i = seated;
                    while (i > 0 && plight.hunger[order[i - 1]] < plight.hunger[p]) {
                        order[i] = order[i - 1];
                        i--;
                    }
                    order[i] = p;
                    seated++;
                }
            }
            return seated;
        }

        /** Every round but the last takes a portion, so that there are no more rounds than portions. */
        private void serve(Plight plight, int eaters) {
            Arrays.fill(eaten, 0);
            int worth = plight.worthOf(what);
            boolean goesOn = true;
            for (int round = 0; round <= MOST_PORTIONS && goesOn; round++) {
                goesOn = false;
                for (int i = 0; i < eaters && plight.portions > 0; i++) {
                    int p = order[i];
                    if (plight.hunger[p] > 0) {
                        plight.hunger[p] = Math.max(0, plight.hunger[p] - worth);
                        plight.portions--;
                        eaten[p]++;
                        goesOn = true;
                    }
                }
            }
        }
    }

    /** DAYS from some plight on, with what they come to together. */
    private static final class Course {
        final Plight plight = new Plight();
        final Meal meal = new Meal();
        final int[] ate = new int[MOST_PEOPLE];
        final int[] said = new int[MOST_PEOPLE];
        int dishes;
        int worthTogether;

        void start(Plight from) {
            plight.copy(from);
            Arrays.fill(ate, 0);
            Arrays.fill(said, 0);
            dishes = 0;
            worthTogether = 0;
        }

        void pass(Told told, int bowl) {
            meal.hold(told, plight, 0, false, bowl);
            for (int p = 0; p < told.people; p++) {
                ate[p] += meal.eaten[p];
                said[p] += meal.who == p ? 1 : 0;
            }
            dishes |= meal.what < 0 ? 0 : 1 << meal.what;
            worthTogether += plight.worthOf(meal.what);
        }

        void walk(Told told, Plight from, int n) {
            start(from);
            for (int i = 0; i < n; i++) {
                pass(told, told.bowl);
            }
        }
    }

    /** Who should fast besides: FASTS for a name, and the BEST FAST. */
    private static final class FastSearch {
        private static final int NOT_FOUND = 1000;

        int bestCount;
        int bestBits;
        int mostWorth;
        private final Plight[] plights = new Plight[DAYS_TO_FAST + 1];
        private final Meal meal = new Meal();
        private int wanted;
        private int days;

        FastSearch() {
            for (int i = 0; i < plights.length; i++) {
                plights[i] = new Plight();
            }
        }

        boolean isFound() {
            return bestCount < NOT_FOUND;
        }

        void seekName(Told told, Plight from, int k, int n) {
            wanted = k;
            days = n;
            bestCount = NOT_FOUND;
            bestBits = 0;
            plights[0].copy(from);
            seekOn(this, told, 0, 0);
        }

        /** The least that can come of a beginning is that nobody fasts later: what isn't better so needs no look. */
        private static void seekOn(FastSearch search, Told told, int day, int bits) {
            if (day < 0 || day >= search.days || day >= DAYS_TO_FAST) {
                return;
            }
            Plight plight = search.plights[day];
            boolean isLast = day == search.days - 1;
            if (isLast && plight.nextDish(told, false) != search.wanted) {
                return;
            }
            // All who are safe fasting is the best for the others: who dies then dies by any fasts.
            int free = plight.freeToFast(told) & ~plight.endangered(told);
            if (!search.keepsAll(told, day, free)) {
                return;
            }
            for (int more = 0; more <= free; more++) {
                int all = bits | more << MOST_PEOPLE * day;
                if ((more & ~free) != 0 || !search.isBetter(all) || !search.keepsAll(told, day, more)) {
                    continue;
                }
                if (isLast) {
                    search.bestCount = Integer.bitCount(all);
                    search.bestBits = all;
                } else {
                    seekOn(search, told, day + 1, all);
                }
            }
        }

        private boolean keepsAll(Told told, int day, int besides) {
            plights[day + 1].copy(plights[day]);
            meal.hold(told, plights[day + 1], besides, false, told.bowl);
            return plights[day + 1].dead == plights[day].dead;
        }

        private boolean isBetter(int bits) {
            int count = Integer.bitCount(bits);
            return count < bestCount || count == bestCount && bits < bestBits;
        }

        void seekWorth(Told told, Plight from) {
            bestCount = NOT_FOUND;
            bestBits = 0;
            mostWorth = -1;
            int free = from.freeToFast(told);
            Plight behind = plights[0];
            for (int more = 0; more <= free; more++) {
                if ((more & ~free) == 0) {
                    behind.copy(from);
                    meal.hold(told, behind, more, false, told.bowl);
                    weighFast(more, behind.worthOf(behind.nextDish(told, false)));
                }
            }
        }

        private void weighFast(int people, int worth) {
            if (worth > mostWorth || worth == mostWorth && isBetter(people)) {
                mostWorth = worth;
                bestCount = Integer.bitCount(people);
                bestBits = people;
            }
        }
    }

    /** Which hungers go with the names that were heard. */
    private static final class Hearsay {
        private static final int MOST_SETS = 1 << MOST_UNSURE;

        int count;
        int inSome;
        int inAll;
        private int fitting;
        private final int[] dishes = new int[DAYS_AHEAD + 1];
        private final Plight plight = new Plight();
        private final Meal meal = new Meal();

        void weigh(Told told) {
            fitting = 0;
            count = 0;
            inSome = 0;
            inAll = -1;
            for (int set = 0; set < 1 << told.unsure && set < MOST_SETS; set++) {
                if (firstUnlike(told, set) < 0) {
                    fitting |= 1 << set;
                    count++;
                    inSome |= set;
                    inAll &= set;
                }
            }
            if (count == 0) {
                inAll = 0;
            }
        }

        int firstUnlike(Told told, int others) {
            int last = Math.min(told.lastHeardDay(), DAYS_AHEAD);
            plight.begin(told, others);
            for (int day = 1; day <= last; day++) {
                meal.hold(told, plight, 0, false, told.bowl);
                dishes[day] = meal.what;
            }
            for (int h = 0; h < told.heard; h++) {
                if (dishes[told.heardDay[h]] != told.heardName[h]) {
                    return h;
                }
            }
            return NOBODY;
        }

        private boolean isFitting(int set) {
            return (fitting >> set & 1) == 1;
        }

        int setAt(int i) {
            int ahead = i;
            for (int set = 0; set < MOST_SETS; set++) {
                if (isFitting(set)) {
                    if (ahead == 0) {
                        return set;
                    }
                    ahead--;
                }
            }
            return NONE;
        }

        int whomToAsk(Told told) {
            int best = NOBODY;
            for (int u = 0; u < told.unsure && count > 0; u++) {
                if (best < 0 || leftAtMost(u) < leftAtMost(best)) {
                    best = u;
                }
            }
            return best;
        }

        int leftAtMost(int unsure) {
            int with = 0;
            for (int set = 0; set < MOST_SETS; set++) {
                with += isFitting(set) && (set >> unsure & 1) == 1 ? 1 : 0;
            }
            return Math.max(with, count - with);
        }
    }

    /** FLINCH, by chance and by draws. */
    private static final class Chances {
        private static final int HUNDRED = 100;
        private static final int MOST_STEPS = 1000;

        long whole;
        final long[] weight = new long[MOST_NAMES];
        private final Plight plight = new Plight();
        private final Meal meal = new Meal();

        /** Of all hundreds of ways of n DAYS, how many end with each name. */
        void weigh(Told told, Plight from, int n) {
            Arrays.fill(weight, 0L);
            whole = 1;
            for (int i = 0; i < n; i++) {
                whole *= HUNDRED;
            }
            for (int flinches = 0; flinches < 1 << n; flinches++) {
                weighWay(told, from, n, flinches);
            }
        }

        private void weighWay(Told told, Plight from, int n, int flinches) {
            long likely = 1;
            plight.copy(from);
            for (int i = 0; i < n && likely > 0; i++) {
                boolean isFlinch = (flinches >> i & 1) == 1;
                likely *= isFlinch ? told.flinch : HUNDRED - told.flinch;
                meal.hold(told, plight, 0, isFlinch, told.bowl);
            }
            if (meal.what >= 0) {
                weight[meal.what] += likely;
            }
        }

        long weightOfWorths(Told told, Plight from) {
            long sum = 0;
            for (int k = 0; k < told.names; k++) {
                sum += weight[k] * from.worth[k];
            }
            return sum;
        }

        static long lowest(long upper, long under, boolean lower) {
            long a = under;
            long b = upper;
            for (int i = 0; i < MOST_STEPS && b > 0; i++) {
                long over = a % b;
                a = b;
                b = over;
            }
            if (a <= 0) {
                return 0;
            }
            return lower ? under / a : upper / a;
        }

        int dishByDraws(Told told, Plight from, int seed, int n) {
            int draw = seed;
            plight.copy(from);
            for (int i = 0; i < n; i++) {
                draw = (75 * draw + 74) % 65537;
                meal.hold(told, plight, 0, draw % HUNDRED < told.flinch, told.bowl);
            }
            return meal.what;
        }
    }

    /** The plights ahead of the latest ACTS. */
    private static final class History {
        int count;
        private int next;
        private final Plight[] plights = new Plight[ACTS_KEPT];

        History() {
            for (int i = 0; i < plights.length; i++) {
                plights[i] = new Plight();
            }
        }

        void keep(Plight plight) {
            plights[next].copy(plight);
            next = next + 1 < ACTS_KEPT ? next + 1 : 0;
            count = Math.min(count + 1, ACTS_KEPT);
        }

        boolean takeBack(Plight into) {
            if (count == 0) {
                return false;
            }
            next = next > 0 ? next - 1 : ACTS_KEPT - 1;
            count--;
            into.copy(plights[next]);
            return true;
        }

        void forget() {
            count = 0;
            next = 0;
        }
    }

    /** The plights that can be gone back to. */
    private static final class Images {
        int count;
        private final Plight[] plights = new Plight[IMAGES_KEPT];

        Images() {
            for (int i = 0; i < plights.length; i++) {
                plights[i] = new Plight();
            }
        }

        int keep(Plight plight) {
            if (count >= IMAGES_KEPT) {
                return NONE;
            }
            plights[count].copy(plight);
            count++;
            return count - 1;
        }

        boolean show(int image, Plight into) {
            if (image < 0 || image >= count) {
                return false;
            }
            into.copy(plights[image]);
            return true;
        }

        void forget() {
            count = 0;
        }
    }
}
