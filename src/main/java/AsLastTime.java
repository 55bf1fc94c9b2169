/**
 * Hair on four places, hands that cut it as they remember it, visits, and what they lead to.
 * All rows are made by the constructor and used again: a call makes no object.
 */
public final class AsLastTime {
    public static final int NONE = -1, BAD = -2, STATE = -3, FULL = -4;
    public static final long NO = -4611686018427387904L;

    // refusals that the face does not name
    private static final int NOTHING = -11, OUTSIDE = -12, OTHER_SORT = -13, BELOW_ZERO = -14;
    private static final int NONE_SUCH = -100, NO_DRIFT = -1000;

    // what set() and told() speak of; the rows of a Salon are in this order
    private static final int LENGTH = 0, LAST = 1, WANT = 2, MARK = 3;
    private static final int NUMBER = 4, SHARE = 5, WISH = 6;
    private static final int HAND = 7, WEEKS = 8, WORD = 9, KIND = 10;
    private static final int ROWS = 11, ROW_SIZE = 8;

    private static final int PLACES = 4, MOST_HANDS = 5, MOST_VISITS = 8, MOST_TEXTS = 6;
    private static final int LONGEST = 199, FIRST_LENGTH = 40;
    private static final int MOST_WEEKS = 20, MOST_WORD = 3, MOST_NUMBER = 9, MOST_SHARE = 10;
    private static final int MOST_CUTS = 30, MOST_SAID = 4, MOST_SEEDS = 20;

    // the kinds of hands, and under which one each of them is
    private static final int PLAIN = 0, SHORT = 1, TIMID = 2, CROOKED = 3, HALVING = 4, EXACT = 5;
    private static final int KINDS = 6;
    private static final int[] UNDER = {NONE, PLAIN, PLAIN, SHORT, TIMID, PLAIN};

    // the words of a visit
    private static final int NOT_TOO_SHORT = 1, SHORTER = 2, AS_MARKED = 3;

    // the parts of a text
    private static final int GROWS = 0, EVENS = 1, MINDS = 2, PARTS = 3;
    private static final int TAPE = 160, MOST_OPEN = 5, MOST_TOLD = 99, MOST_DIGITS = 4;
    // five levels of signs in each of six levels of brackets leave 30 waiting, and one on top
    private static final int STACK = 40;

    // tokens, which are the codes of a text as well: a number below NAME_LENGTH is itself
    private static final int NAME_LENGTH = 10000, NAME_LAST = 10001, NAME_WANT = 10002;
    private static final int NAME_WEEKS = 10003, NAME_PLACE = 10004, NAME_HAND = 10005;
    private static final int KEY_GROWS = 10006, KEY_EVENS = 10007, KEY_MINDS = 10008;
    private static final int KEY_OR = 10009, KEY_AND = 10010, KEY_NOT = 10011;
    private static final int SIGN_OPEN = 10012, SIGN_CLOSE = 10013, SIGN_END = 10014;
    private static final int SIGN_PLUS = 10015, SIGN_MINUS = 10016, SIGN_TIMES = 10017;
    private static final int SIGN_LESS = 10018, SIGN_EQUAL = 10019;
    private static final int NEGATE = 10020, TAPE_END = 10021, BROKEN = 10022;
    private static final String FIRST_TEXT = "grows weeks * 2 ; evens 1 ; minds 1 ;";

    private static final int SHEETS = 4, SHEET_SIZE = 40;
    private static final int MISSING = -1, BYTES = 0, SHORTS = 1, INTS = 2;

    private final Text[] texts = new Text[MOST_TEXTS];
    private int textCount = 1;
    private final Reader reader = new Reader();
    private final Salon now;
    private final Salon kept;
    private boolean imageKept = false;
    private final Thought thought;
    private final Sheet[] sheets = new Sheet[SHEETS];

    public AsLastTime() {
        for (int t = 0; t < MOST_TEXTS; t++) {
            texts[t] = new Text();
        }
        for (int s = 0; s < SHEETS; s++) {
            sheets[s] = new Sheet();
        }
        for (int i = 0; i < FIRST_TEXT.length(); i++) {
            reader.append(FIRST_TEXT.charAt(i));
        }
        reader.read(texts[0]);
        reader.empty();
        now = new Salon(texts);
        kept = new Salon(texts);
        thought = new Thought(now, new Salon(texts));
    }

    // ---- places, hands, visits

    public int set(int what, int of, int v) {
        if (what == KIND || !now.names(what, of) || !now.fits(what, v)) {
            return NONE_SUCH;
        }
        int was = now.read(what, of);
        now.write(what, of, v);
        return was;
    }

    public int hand(int kind, int what, int wish) {
        if (!now.fits(KIND, kind) || !now.fits(NUMBER, what / 100)
                || !now.fits(SHARE, what % 100) || !now.fits(WISH, wish)) {
            return BAD;
        }
        if (now.hands >= MOST_HANDS) {
            return FULL;
        }
        int h = now.hands;
        now.hands++;
        now.write(KIND, h, kind);
        now.write(NUMBER, h, what / 100);
        now.write(SHARE, h, what % 100);
        now.write(WISH, h, wish);
        return h;
    }

    public int visit(int hand, int what) {
        return newVisit(hand, what);
    }

    public int told(int of, int what) {
        return now.names(what, of) ? now.read(what, of) : NONE_SUCH;
    }

    // ---- texts

    public int feed(int letter) {
        if (letter < 0 || letter > 255) {
            return BAD;
        }
        return reader.append(letter) ? reader.size : FULL;
    }

    public int text() {
        if (textCount >= MOST_TEXTS) {
            return FULL;
        }
        int fault = reader.read(texts[textCount]);
        reader.empty();
        if (fault != NONE) {
            return NONE_SUCH - fault;
        }
        textCount++;
        return textCount - 1;
    }

    public int force(int text) {
        if (text < 0 || text >= textCount) {
            return BAD;
        }
        int was = now.rule;
        now.rule = text;
        return was;
    }

    // ---- visits, a course

    public int once(int visit, int what) {
        if (!isVisit(visit) || what < 0 || what > PLACES + 1) {
            return BAD;
        }
        thought.begin();
        int cuts = thought.salon.undergo(visit);
        if (what < PLACES) {
            return thought.salon.read(LENGTH, what);
        }
        return what == PLACES ? cuts : thought.salon.off();
    }

    public int go(int visit) {
        if (!isVisit(visit)) {
            return BAD;
        }
        now.undergo(visit);
        return now.off();
    }

    public int course(int visit, int place) {
        if (!isVisit(visit) || !isPlace(place)) {
            return BAD;
        }
        thought.walkAsNow();
        return thought.behind[visit][place];
    }

    public int bad(int what) {
        if (what < 0 || what > 3) {
            return BAD;
        }
        thought.walkAsNow();
        switch (what) {
            case 0:
                return thought.badness();
            case 1:
                return thought.allCuts();
            case 2:
                return thought.salon.off();
            default:
                return thought.worst();
        }
    }

    public int drift(int place) {
        if (!isPlace(place)) {
            return NO_DRIFT;
        }
        thought.walkAsNow();
        return thought.salon.read(LENGTH, place) - now.read(WANT, place);
    }

    // ---- what would be best

    public int say(int n, int what) {
        if (n < 0 || n > MOST_SAID || n > now.visits || !isFirstOrSecond(what)) {
            return BAD;
        }
        thought.begin();
        for (int v = 0; v < n; v++) {
            thought.salon.write(WORD, v, 0);
        }
        int least = 0;
        int digits = NONE;
        int changed = 0;
        for (int way = 0; way < 256 && changed != NONE; way++) {
            thought.walk(changed);
            int badness = thought.badness();
            if (digits == NONE || badness < least) {
                least = badness;
                digits = thought.wordDigits(n);
            }
            changed = thought.nextWords(n);
        }
        return what == 0 ? least : digits;
    }

    public int whom(int what) {
        if (!isFirstOrSecond(what)) {
            return BAD;
        }
        int least = NONE;
        int best = NONE;
        thought.begin();
        for (int h = 0; h < now.hands; h++) {
            for (int v = 0; v < now.visits; v++) {
                thought.salon.write(HAND, v, h);
            }
            thought.walk(0);
            int badness = thought.badness();
            if (best == NONE || badness < least) {
                least = badness;
                best = h;
            }
        }
        return what == 0 ? best : least;
    }

    public int when(int visit, int what) {
        if (!isVisit(visit) || !isFirstOrSecond(what)) {
            return BAD;
        }
        int least = NONE;
        int best = NONE;
        thought.begin();
        for (int weeks = 0; weeks <= MOST_WEEKS; weeks++) {
            thought.salon.write(WEEKS, visit, weeks);
            thought.walk(weeks == 0 ? 0 : visit);
            int badness = thought.badness();
            if (best == NONE || badness < least) {
                least = badness;
                best = weeks;
            }
        }
        return what == 0 ? best : least;
    }

    public int marked() {
        int asNow = badnessNow();
        thought.begin();
        thought.salon.write(MARK, 0, now.read(WANT, 0));
        for (int v = 0; v < now.visits; v++) {
            thought.salon.write(WORD, v, AS_MARKED);
        }
        thought.walk(0);
        return thought.badness() - asNow;
    }

    public int again(int near) {
        if (near < 0 || near > LONGEST) {
            return BAD;
        }
        thought.walkAsNow();
        int first = NONE;
        for (int v = now.visits - 1; v >= 0 && thought.isNear(v, near); v--) {
            first = v;
        }
        return first;
    }

    // ---- pictures

    public int pictures(int sheet, int place) {
        if (!isSheet(sheet) || !isPlace(place)) {
            return BAD;
        }
        int refusal = pictureRefusal(sheets[sheet]);
        if (refusal != 0) {
            return refusal;
        }
        thought.walkAsNow();
        return thought.firstOtherwise(sheets[sheet], place);
    }

    public int seen(int sheet, int place, int what, int of) {
        if (!isSheet(sheet) || !isPlace(place) || what < 0 || what > 5) {
            return BAD;
        }
        if (what < 5 && !now.names(rowSeen(what), of)) {
            return BAD;
        }
        int refusal = pictureRefusal(sheets[sheet]);
        if (refusal != 0) {
            return refusal;
        }
        if (what == 5) {
            return textsSeen(sheets[sheet], place);
        }
        return valuesSeen(sheets[sheet], place, rowSeen(what), of);
    }

    public int film(int sheet, int place, int n) {
        if (!isSheet(sheet) || !isPlace(place) || n < 0 || n > now.visits) {
            return BAD;
        }
        thought.walkAsNow();
        sheets[sheet].renew(SHORTS, n);
        for (int v = 0; v < n; v++) {
            sheets[sheet].put(v, thought.behind[v][place]);
        }
        return n;
    }

    public int drawn(int seed) {
        return now.hands == 0 ? NONE : badnessDrawn(seed);
    }

    public long chance(int seed, int n, int part) {
        if (n < 1 || n > MOST_SEEDS || !isFirstOrSecond(part) || now.hands == 0) {
            return NO;
        }
        int asNow = badnessNow();
        int hits = 0;
        for (int i = 0; i < n; i++) {
            if (badnessDrawn(seed + i) <= asNow) {
                hits++;
            }
        }
        int divisor = commonDivisor(hits, n);
        return part == 0 ? hits / divisor : n / divisor;
    }

    public int image() {
        kept.become(now);
        imageKept = true;
        return kept.visits;
    }

    public int back() {
        if (!imageKept) {
            return STATE;
        }
        now.become(kept);
        return now.visits;
    }

    public int count(int what) {
        switch (what) {
            case 0:
                return now.hands;
            case 1:
                return now.visits;
            case 2:
                return textCount;
            case 3:
                return reader.size;
            case 4:
                return now.rule;
            case 5:
                return now.lengthsTogether();
            default:
                return BAD;
        }
    }

    // ---- the host

    public int sheet(int sheet, int sort, int n) {
        if (!isSheet(sheet) || sort < MISSING || sort > INTS) {
            return BAD;
        }
        if (sort == MISSING) {
            sheets[sheet].renew(MISSING, 0);
            return 1;
        }
        if (n > SHEET_SIZE) {
            return BAD;
        }
        if (n < 0) {
            return BELOW_ZERO;
        }
        sheets[sheet].renew(sort, n);
        return 1;
    }

    public int cell(int sheet, int i, int v) {
        if (!isSheet(sheet)) {
            return BAD;
        }
        if (sheets[sheet].sort == MISSING) {
            return NOTHING;
        }
        return sheets[sheet].put(i, v) ? 1 : OUTSIDE;
    }

    public int copy(int sheet, int i, int other, int j, int n) {
        if (!isSheet(sheet) || !isSheet(other)) {
            return BAD;
        }
        Sheet from = sheets[sheet];
        Sheet to = sheets[other];
        if (from.sort == MISSING || to.sort == MISSING) {
            return NOTHING;
        }
        if (from.sort != to.sort) {
            return OTHER_SORT;
        }
        if (!from.hasRange(i, n) || !to.hasRange(j, n)) {
            return OUTSIDE;
        }
        // arraycopy takes the numbers as they were, also within one row
        System.arraycopy(from.row, i, to.row, j, n);
        return n;
    }

    public int visits(int sheet, int sort, int from, int n) {
        if (!isSheet(sheet) || sort < BYTES || sort > INTS || n < 0 || n > MOST_VISITS) {
            return BAD;
        }
        Sheet source = sheets[sheet];
        if (source.sort == MISSING) {
            return NOTHING;
        }
        if (source.sort != sort) {
            return OTHER_SORT;
        }
        int came = 0;
        for (int k = 0; k < n; k++) {
            int at = from + 2 * k;
            if (!source.hasRange(at, 2)) {
                return OUTSIDE;
            }
            if (newVisit(source.row[at], source.row[at + 1]) >= 0) {
                came++;
            }
        }
        return came;
    }

    public int taken(int hand, int k) {
        if (!now.fits(KIND, k)) {
            return BAD;
        }
        if (!now.names(KIND, hand)) {
            return NOTHING;
        }
        return isUnder(now.read(KIND, hand), k) ? now.read(NUMBER, hand) : OTHER_SORT;
    }

    // ---- helpers

    private boolean isVisit(int visit) {
        return visit >= 0 && visit < now.visits;
    }

    private static boolean isPlace(int place) {
        return place >= 0 && place < PLACES;
    }

    private static boolean isSheet(int sheet) {
        return sheet >= 0 && sheet < SHEETS;
    }

    private static boolean isFirstOrSecond(int what) {
        return what == 0 || what == 1;
    }

    private static boolean isUnder(int kind, int k) {
        int at = kind;
        for (int level = 0; level < KINDS && at >= 0 && at < KINDS; level++) {
            if (at == k) {
                return true;
            }
            at = UNDER[at];
        }
        return false;
    }

    private int newVisit(int hand, int what) {
        if (!now.fits(HAND, hand) || !now.fits(WEEKS, what / 10) || !now.fits(WORD, what % 10)) {
            return BAD;
        }
        if (now.visits >= MOST_VISITS) {
            return FULL;
        }
        int v = now.visits;
        now.visits++;
        now.write(HAND, v, hand);
        now.write(WEEKS, v, what / 10);
        now.write(WORD, v, what % 10);
        return v;
    }

    private int badnessNow() {
        thought.walkAsNow();
        return thought.badness();
    }

    /** Asked only while there are hands; answers 0 otherwise, so that nothing is divided by 0. */
    private int badnessDrawn(int seed) {
        if (now.hands == 0) {
            return 0;
        }
        int z = seed;
        thought.begin();
        for (int v = 0; v < now.visits; v++) {
            z = z * 1103515245 + 12345;
            thought.salon.write(HAND, v, (z >>> 9) % now.hands);
        }
        thought.walk(0);
        return thought.badness();
    }

    /** The greatest divisor of both, a being 0 or more, b 1 or more. */
    private static int commonDivisor(int a, int b) {
        for (int d = b; d > 1; d--) {
            if (a % d == 0 && b % d == 0) {
                return d;
            }
        }
        return 1;
    }

    private int pictureRefusal(Sheet sheet) {
        if (sheet.sort == MISSING) {
            return NOTHING;
        }
        return sheet.size > now.visits ? BAD : 0;
    }

    /** The row that seen() tries by its what 0 .. 4. */
    private static int rowSeen(int what) {
        switch (what) {
            case 0:
                return HAND;
            case 1:
                return WORD;
            case 2:
                return WEEKS;
            case 3:
                return NUMBER;
            default:
                return SHARE;
        }
    }

    private int valuesSeen(Sheet sheet, int place, int what, int of) {
        int bits = 0;
        thought.begin();
        for (int v = 0; v <= now.most(what); v++) {
            thought.salon.write(what, of, v);
            thought.walk(0);
            if (thought.firstOtherwise(sheet, place) == NONE) {
                bits |= 1 << v;
            }
        }
        return bits;
    }

    private int textsSeen(Sheet sheet, int place) {
        int bits = 0;
        thought.begin();
        for (int t = 0; t < textCount; t++) {
            thought.salon.rule = t;
            thought.walk(0);
            if (thought.firstOtherwise(sheet, place) == NONE) {
                bits |= 1 << t;
            }
        }
        return bits;
    }

    /** Places, hands, visits and the rule, as they are or as they would be. */
    private static final class Salon {
        final Text[] texts;
        final int[][] row = new int[ROWS][ROW_SIZE];
        int hands = 0;
        int visits = 0;
        int rule = 0;

        Salon(Text[] texts) {
            this.texts = texts;
            for (int p = 0; p < PLACES; p++) {
                row[LENGTH][p] = FIRST_LENGTH;
                row[LAST][p] = FIRST_LENGTH;
                row[WANT][p] = FIRST_LENGTH;
            }
            row[MARK][0] = NONE;
        }

        void become(Salon other) {
            for (int what = 0; what < ROWS; what++) {
                System.arraycopy(other.row[what], 0, row[what], 0, ROW_SIZE);
            }
            hands = other.hands;
            visits = other.visits;
            rule = other.rule;
        }

        private int howMany(int what) {
            switch (what) {
                case LENGTH:
                case LAST:
                case WANT:
                    return PLACES;
                case HAND:
                case WEEKS:
                case WORD:
                    return visits;
                default:
                    return hands;
            }
        }

        /** Whether there is such a thing; of which one does not matter with MARK. */
        boolean names(int what, int of) {
            if (what < 0 || what >= ROWS) {
                return false;
            }
            return what == MARK || of >= 0 && of < howMany(what);
        }

        int most(int what) {
            switch (what) {
                case NUMBER:
                    return MOST_NUMBER;
                case SHARE:
                    return MOST_SHARE;
                case HAND:
                    return hands - 1;
                case WEEKS:
                    return MOST_WEEKS;
                case WORD:
                    return MOST_WORD;
                case KIND:
                    return KINDS - 1;
                default:
                    return LONGEST;
            }
        }

        boolean fits(int what, int v) {
            return v >= (what == MARK ? NONE : 0) && v <= most(what);
        }

        /** Only what names() knows is asked. */
        int read(int what, int of) {
            return row[what][what == MARK ? 0 : of];
        }

        void write(int what, int of, int v) {
            row[what][what == MARK ? 0 : of] = v;
        }

        int lengthsTogether() {
            int sum = 0;
            for (int p = 0; p < PLACES; p++) {
                sum += row[LENGTH][p];
            }
            return sum;
        }

        /** A visit truly; answers how often it was cut to be even. */
        int undergo(int visit) {
            for (int p = 0; p < PLACES; p++) {
                int more = texts[rule].tell(GROWS, p, this, visit);
                int length = Math.min(LONGEST, row[LENGTH][p] + more);
                row[LENGTH][p] = left(p, length, visit);
            }
            int cuts = 0;
            for (int p = 0; p < PLACES; p += 2) {
                cuts += even(p, visit);
            }
            System.arraycopy(row[LENGTH], 0, row[LAST], 0, PLACES);
            return cuts;
        }

        private int left(int place, int length, int visit) {
            int hand = row[HAND][visit];
            int e = means(hand, place, row[LAST][place]);
            switch (row[WORD][visit]) {
                case NOT_TOO_SHORT:
                    e = (length + e) / 2;
                    break;
                case SHORTER:
                    e = e - 10;
                    break;
                case AS_MARKED:
                    e = row[MARK][0] == NONE ? e : row[MARK][0];
                    break;
                default:
                    break;
            }
            return Math.max(0, Math.min(length, leaves(row[KIND][hand], length, e)));
        }

        private int means(int hand, int place, int remembered) {
            int share = row[SHARE][hand];
            int plain = (share * remembered + (10 - share) * row[WISH][hand]) / 10;
            switch (row[KIND][hand]) {
                case SHORT:
                    return plain - row[NUMBER][hand];
                case CROOKED:
                    return plain - row[NUMBER][hand] - (place % 2 == 1 ? 3 : 0);
                default:
                    return plain;
            }
        }

        private static int leaves(int kind, int length, int e) {
            switch (kind) {
                case TIMID:
                    return (length + e) / 2;
                case HALVING:
                    return (length + (length + e) / 2) / 2;
                case EXACT:
                    return e - e % 5;
                default:
                    return e;
            }
        }

        /** The two sides of which place is the lesser one; evens is told anew ahead of each cut. */
        private int even(int place, int visit) {
            int[] length = row[LENGTH];
            for (int cuts = 0; cuts < MOST_CUTS; cuts++) {
                int bound = texts[rule].tell(EVENS, place, this, visit);
                if (Math.abs(length[place] - length[place + 1]) <= bound) {
                    return cuts;
                }
                int longer = length[place] > length[place + 1] ? place : place + 1;
                int shorter = longer == place ? place + 1 : place;
                length[longer] = Math.max(0, length[shorter] - 1);
            }
            return MOST_CUTS;
        }

        int off() {
            int sum = 0;
            for (int p = 0; p < PLACES; p++) {
                int steps = Math.abs(row[LENGTH][p] - row[WANT][p]);
                sum += steps * texts[rule].tell(MINDS, p, this, NONE);
            }
            return sum;
        }
    }

    /** A course of all visits, in a salon of its own that others may change before they walk. */
    private static final class Thought {
        final Salon now;
        final Salon salon;
        final int[][] behind = new int[MOST_VISITS][PLACES];
        final int[] off = new int[MOST_VISITS];
        final int[] cuts = new int[MOST_VISITS];

        Thought(Salon now, Salon salon) {
            this.now = now;
            this.salon = salon;
        }

        void begin() {
            salon.become(now);
        }

        void walkAsNow() {
            begin();
            walk(0);
        }

        /** The visits from one on; those ahead of it must have been walked as they are. */
        void walk(int from) {
            for (int p = 0; p < PLACES; p++) {
                // behind a visit LAST is LENGTH, so that LENGTHS are all that need be kept
                salon.row[LENGTH][p] = from > 0 ? behind[from - 1][p] : now.row[LENGTH][p];
                salon.row[LAST][p] = from > 0 ? behind[from - 1][p] : now.row[LAST][p];
            }
            for (int v = from; v < salon.visits; v++) {
                cuts[v] = salon.undergo(v);
                off[v] = salon.off();
                System.arraycopy(salon.row[LENGTH], 0, behind[v], 0, PLACES);
            }
        }

        int badness() {
            int sum = 0;
            for (int v = 0; v < salon.visits; v++) {
                sum += off[v];
            }
            return sum;
        }

        int allCuts() {
            int sum = 0;
            for (int v = 0; v < salon.visits; v++) {
                sum += cuts[v];
            }
            return sum;
        }

        int worst() {
            int worst = NONE;
            for (int v = 0; v < salon.visits; v++) {
                if (worst == NONE || off[v] > off[worst]) {
                    worst = v;
                }
            }
            return worst;
        }

        boolean isNear(int visit, int near) {
            for (int p = 0; p < PLACES; p++) {
                if (Math.abs(behind[visit][p] - salon.row[WANT][p]) > near) {
                    return false;
                }
            }
            return true;
        }

        /** The next way of words at the first n visits: the first visit that it changes, or NONE. */
        int nextWords(int n) {
            for (int v = n - 1; v >= 0; v--) {
                if (salon.row[WORD][v] < MOST_WORD) {
                    salon.row[WORD][v]++;
                    return v;
                }
                salon.row[WORD][v] = 0;
            }
            return NONE;
        }

        int wordDigits(int n) {
            int digits = 0;
            for (int v = 0; v < n; v++) {
                digits = 10 * digits + salon.row[WORD][v];
            }
            return digits;
        }

        /** Only of a sheet that tells no more than there are visits. */
        int firstOtherwise(Sheet sheet, int place) {
            for (int v = 0; v < sheet.size && v < MOST_VISITS; v++) {
                if (sheet.row[v] != behind[v][place]) {
                    return v;
                }
            }
            return NONE;
        }
    }

    /** What a text tells, as codes for a stack: what is joined stands ahead of what joins it. */
    private static final class Text {
        final int[] code = new int[TAPE];
        final int[] end = new int[PARTS];
        final int[] stack = new int[STACK];
        int size = 0;

        void add(int c) {
            if (size < code.length) {
                code[size] = c;
                size++;
            }
        }

        /** With NONE for a visit weeks and hand are 0. */
        int tell(int part, int place, Salon salon, int visit) {
            int top = 0;
            for (int i = part == GROWS ? 0 : end[part - 1]; i < end[part]; i++) {
                int c = code[i];
                if (c <= NAME_HAND && top < STACK) {
                    stack[top] = c < NAME_LENGTH ? c : named(c, place, salon, visit);
                    top++;
                } else if (c == NEGATE && top >= 1) {
                    stack[top - 1] = -stack[top - 1];
                } else if (c == KEY_NOT && top >= 1) {
                    stack[top - 1] = stack[top - 1] == 0 ? 1 : 0;
                } else if (top >= 2) {
                    top--;
                    stack[top - 1] = joined(c, stack[top - 1], stack[top]);
                }
            }
            int told = top > 0 ? stack[top - 1] : 0;
            return Math.max(0, Math.min(MOST_TOLD, told));
        }

        private static int named(int name, int place, Salon salon, int visit) {
            switch (name) {
                case NAME_LENGTH:
                    return salon.row[LENGTH][place];
                case NAME_LAST:
                    return salon.row[LAST][place];
                case NAME_WANT:
                    return salon.row[WANT][place];
                case NAME_WEEKS:
                    return visit == NONE ? 0 : salon.row[WEEKS][visit];
                case NAME_PLACE:
                    return place;
                default:
                    return visit == NONE ? 0 : salon.row[HAND][visit];
            }
        }

        private static int joined(int sign, int a, int b) {
            switch (sign) {
                case KEY_OR:
                    return a != 0 || b != 0 ? 1 : 0;
                case KEY_AND:
                    return a != 0 && b != 0 ? 1 : 0;
                case SIGN_LESS:
                    return a < b ? 1 : 0;
                case SIGN_EQUAL:
                    return a == b ? 1 : 0;
                case SIGN_PLUS:
                    return a + b;
                case SIGN_MINUS:
                    return a - b;
                default:
                    return a * b;
            }
        }
    }

    /** The tape, and how a text is read from it. */
    private static final class Reader {
        final int[] tape = new int[TAPE];
        int size = 0;
        private int at;
        private int start;
        private int token;
        private int fault;
        private Text out;

        Reader() {
        }

        boolean append(int letter) {
            if (size >= TAPE) {
                return false;
            }
            tape[size] = letter;
            size++;
            return true;
        }

        void empty() {
            size = 0;
        }

        /** Answers the place of the fault, or NONE. */
        int read(Text into) {
            out = into;
            out.size = 0;
            at = 0;
            fault = NONE;
            advance();
            for (int part = 0; part < PARTS; part++) {
                demand(KEY_GROWS + part);
                readOr(0);
                demand(SIGN_END);
                out.end[part] = out.size;
            }
            demand(TAPE_END);
            return fault;
        }

        /** A broken token is none that may stand anywhere, so that all that follows is refused too. */
        private void refuse() {
            if (fault == NONE) {
                fault = start;
            }
            token = BROKEN;
        }

        private void demand(int wanted) {
            if (token == wanted) {
                advance();
            } else {
                refuse();
            }
        }

        // open: how many of ( , not, - are open

        private void readOr(int open) {
            readAnd(open);
            for (int i = 0; i < TAPE && token == KEY_OR; i++) {
                advance();
                readAnd(open);
                out.add(KEY_OR);
            }
        }

        private void readAnd(int open) {
            readNot(open);
            for (int i = 0; i < TAPE && token == KEY_AND; i++) {
                advance();
                readNot(open);
                out.add(KEY_AND);
            }
        }

        private void readNot(int open) {
            if (token == KEY_NOT && open < MOST_OPEN) {
                advance();
                readNot(open + 1);
                out.add(KEY_NOT);
                return;
            }
            readSum(open);
            if (token == SIGN_LESS || token == SIGN_EQUAL) {
                int sign = token;
                advance();
                readSum(open);
                out.add(sign);
            }
        }

        private void readSum(int open) {
            readTerm(open);
            for (int i = 0; i < TAPE && (token == SIGN_PLUS || token == SIGN_MINUS); i++) {
                int sign = token;
                advance();
                readTerm(open);
                out.add(sign);
            }
        }

        private void readTerm(int open) {
            readOne(open);
            for (int i = 0; i < TAPE && token == SIGN_TIMES; i++) {
                advance();
                readOne(open);
                out.add(SIGN_TIMES);
            }
        }

        private void readOne(int open) {
            if (token <= NAME_HAND) {
                out.add(token);
                advance();
            } else if (token == SIGN_MINUS && open < MOST_OPEN) {
                advance();
                readOne(open + 1);
                out.add(NEGATE);
            } else if (token == SIGN_OPEN && open < MOST_OPEN) {
                advance();
                readOr(open + 1);
                demand(SIGN_CLOSE);
            } else {
                refuse();
            }
        }

        private void advance() {
            for (; at < size && (tape[at] == 32 || tape[at] == 10); at++) {
            }
            start = at;
            if (at >= size) {
                token = TAPE_END;
            } else if (isLetter(tape[at])) {
                token = nextWord();
            } else if (isDigit(tape[at])) {
                token = nextNumber();
            } else {
                token = signOf(tape[at]);
                at++;
            }
        }

        private int nextWord() {
            for (; at < size && isLetter(tape[at]); at++) {
            }
            for (int word = NAME_LENGTH; word <= KEY_NOT; word++) {
                if (stands(spelling(word))) {
                    return word;
                }
            }
            return BROKEN;
        }

        private boolean stands(String word) {
            if (word.length() != at - start) {
                return false;
            }
            for (int i = 0; i < word.length(); i++) {
                if (tape[start + i] != word.charAt(i)) {
                    return false;
                }
            }
            return true;
        }

        private int nextNumber() {
            int value = 0;
            for (; at < size && isDigit(tape[at]); at++) {
                value = 10 * value + tape[at] - '0';
            }
            return at - start > MOST_DIGITS ? BROKEN : value;
        }

        private static boolean isLetter(int letter) {
            return letter >= 'a' && letter <= 'z';
        }

        private static boolean isDigit(int letter) {
            return letter >= '0' && letter <= '9';
        }

        private static int signOf(int letter) {
            switch (letter) {
                case '(':
                    return SIGN_OPEN;
                case ')':
                    return SIGN_CLOSE;
                case ';':
                    return SIGN_END;
                case '+':
                    return SIGN_PLUS;
                case '-':
                    return SIGN_MINUS;
                case '*':
                    return SIGN_TIMES;
                case '<':
                    return SIGN_LESS;
                case '=':
                    return SIGN_EQUAL;
                default:
                    return BROKEN;
            }
        }

        private static String spelling(int word) {
            switch (word) {
                case NAME_LENGTH:
                    return "length";
                case NAME_LAST:
                    return "last";
                case NAME_WANT:
                    return "want";
                case NAME_WEEKS:
                    return "weeks";
                case NAME_PLACE:
                    return "place";
                case NAME_HAND:
                    return "hand";
                case KEY_GROWS:
                    return "grows";
                case KEY_EVENS:
                    return "evens";
                case KEY_MINDS:
                    return "minds";
                case KEY_OR:
                    return "or";
                case KEY_AND:
                    return "and";
                default:
                    return "not";
            }
        }
    }

    /** A row of numbers of a sort, or missing; bytes and shorts are held as the ints they are. */
    private static final class Sheet {
        final int[] row = new int[SHEET_SIZE];
        int sort = MISSING;
        int size = 0;

        void renew(int newSort, int newSize) {
            sort = newSort;
            size = newSize;
            for (int i = 0; i < SHEET_SIZE; i++) {
                row[i] = 0;
            }
        }

        boolean put(int i, int v) {
            if (i < 0 || i >= size) {
                return false;
            }
            row[i] = sort == BYTES ? (byte) v : sort == SHORTS ? (short) v : v;
            return true;
        }

        boolean hasRange(int i, int n) {
            return i >= 0 && n >= 0 && i <= size && n <= size - i;
        }
    }
}
