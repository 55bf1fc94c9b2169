/** The bounds of promises 19 to 26: pictures, draws, the image and counts, a test for each sentence. */
public final class EdgesOfPicturesTest {
    private static final Check CHECK = new Check("EdgesOfPicturesTest");
    private static final int BAD = AsLastTime.BAD, NONE = AsLastTime.NONE, STATE = AsLastTime.STATE;
    private static final long NO = AsLastTime.NO;

    public static void main(String[] args) {
        noMoreThanThereAre();
        theFirstOtherwise();
        whatIsNoLength();
        bitsOfHands();
        bitsOfWords();
        bitsOfWeeks();
        bitsOfNumbersAndShares();
        bitsOfTexts();
        nothingTold();
        asNamedFirst();
        filmOfNoneToAll();
        drawnOfNoneAndOne();
        drawnAsAnInt();
        chanceOfOneToTwenty();
        chanceInLowestTerms();
        chanceOfSeedsThatWrap();
        noImage();
        theLaterImage();
        eachIsKept();
        whatCameSinceGoes();
        whatItDoesNotKeepStays();
        theRuleIsKept();
        counts();
        CHECK.end();
    }

    /** A hand for each visit, that cuts to a length of its own: 39, 38, .. */
    private static AsLastTime steps(int hands, int visits) {
        AsLastTime x = Salons.ruled(new AsLastTime(), Salons.LOOSE);
        for (int h = 0; h < hands; h++) {
            x.hand(0, 0, 39 - h);
        }
        for (int v = 0; v < visits; v++) {
            x.visit(Math.min(v, hands - 1), 0);
        }
        return x;
    }

    /** "BAD: it tells more than there are" */
    private static void noMoreThanThereAre() {
        for (int visits = 0; visits <= 8; visits++) {
            AsLastTime x = Salons.loose(0, visits);
            for (int n : new int[] {0, 1, visits - 1, visits, visits + 1, 40}) {
                if (n >= 0) {
                    x.sheet(0, 1, n);
                    CHECK.due(n + " told of " + visits, x.pictures(0, 0), n > visits ? BAD : NONE);
                    CHECK.due(n + " told of " + visits + ": texts", x.seen(0, 0, 5, 0), n > visits ? BAD : 3);
                }
            }
        }
    }

    /** "the first VISIT at which it is otherwise; NONE" */
    private static void theFirstOtherwise() {
        for (int at = 0; at <= 8; at++) {
            AsLastTime x = Salons.loose(30, 8);
            x.film(0, 1, 8);
            for (int i = at; i < 8; i++) {
                x.cell(0, i, 31);
            }
            CHECK.due("otherwise from " + at + " on", x.pictures(0, 1), at < 8 ? at : NONE);
        }
        for (int at = 0; at < 8; at++) {
            AsLastTime x = Salons.loose(30, 8);
            x.film(0, 1, 8);
            x.cell(0, at, 29);
            CHECK.due("otherwise at " + at + " alone", x.pictures(0, 1), at);
        }
    }

    /** A number that no LENGTH can be is otherwise; bytes and shorts are what Java has for them. */
    private static void whatIsNoLength() {
        int[][] items = {{0, 127, 127}, {0, 128, -128}, {0, 199, -57}, {0, 255, -1}, {0, 256, 0}, {0, 383, 127},
            {0, -129, 127}, {0, -256, 0}, {1, 199, 199}, {1, 32768, -32768}, {1, 65536, 0}, {1, 65735, 199},
            {1, -65337, 199}, {1, 256, 256}, {2, 199, 199}, {2, 65735, 65735}, {2, -57, -57},
            {2, Integer.MIN_VALUE, Integer.MIN_VALUE}, {1, Integer.MIN_VALUE, 0}, {0, Integer.MIN_VALUE, 0},
            {1, Integer.MAX_VALUE, -1}, {0, Integer.MAX_VALUE, -1}};
        for (int[] item : items) {
            for (int length : new int[] {0, 1, 127, 128, 199}) {
                AsLastTime x = Salons.loose(199, 1);
                x.set(0, 2, length);
                x.set(0, 3, length);
                Salons.sheet(x, 0, item[0], item[1]);
                CHECK.due("sort " + item[0] + ": " + item[1] + " for a length of " + length,
                        x.pictures(0, 2), item[2] == length ? NONE : 0);
            }
        }
    }

    /** "HANDS (bits)": those that there are, 5 at most. */
    private static void bitsOfHands() {
        AsLastTime x = steps(5, 1);
        for (int h = 0; h < 5; h++) {
            Salons.sheet(x, 0, 1, 39 - h);
            CHECK.due("by hand " + h + " alone", x.seen(0, 0, 0, 0), 1 << h);
        }
        Salons.sheet(x, 0, 1, 34);
        CHECK.due("by none", x.seen(0, 0, 0, 0), 0);
        for (int hands = 1; hands <= 5; hands++) {
            AsLastTime y = Salons.loose(0, 1);
            for (int h = 1; h < hands; h++) {
                y.hand(0, 0, 0);
            }
            Salons.sheet(y, 0, 1, 0);
            CHECK.due("by all of " + hands, y.seen(0, 0, 0, 0), (1 << hands) - 1);
        }
    }

    /** "WORDS (bits 0 .. 3)" */
    private static void bitsOfWords() {
        AsLastTime x = Salons.loose(30, 2);
        x.set(3, 0, 33);
        int[] lengths = {30, 35, 20, 33};
        for (int word = 0; word < 4; word++) {
            Salons.sheet(x, 0, 1, lengths[word]);
            CHECK.due("by word " + word + " alone", x.seen(0, 0, 1, 0), 1 << word);
        }
        AsLastTime y = Salons.loose(199, 2);
        Salons.sheet(y, 0, 1, 40, 40);
        CHECK.due("by all", y.seen(0, 0, 1, 1), 15);
        Salons.sheet(y, 0, 1, 41);
        CHECK.due("by none", y.seen(0, 0, 1, 0), 0);
    }

    /** "WEEKS (bits 0 .. 20)" */
    private static void bitsOfWeeks() {
        AsLastTime x = Salons.plain(199, 1);
        for (int weeks = 0; weeks <= 20; weeks++) {
            Salons.sheet(x, 0, 1, 40 + 2 * weeks);
            CHECK.due("by " + weeks + " weeks alone", x.seen(0, 0, 2, 0), 1 << weeks);
        }
        Salons.sheet(x, 0, 1, 82);
        CHECK.due("21 weeks are none", x.seen(0, 0, 2, 0), 0);
        AsLastTime y = Salons.loose(30, 1);
        Salons.sheet(y, 0, 1, 30);
        CHECK.due("by all", y.seen(0, 0, 2, 0), (1 << 21) - 1);
    }

    /** "Of a HAND: NUMBERS (bits 0 .. 9), SHARES (bits 0 .. 10)" */
    private static void bitsOfNumbersAndShares() {
        AsLastTime x = Salons.ruled(new AsLastTime(), Salons.LOOSE);
        x.hand(1, 0, 30);
        x.visit(0, 0);
        for (int number = 0; number <= 9; number++) {
            Salons.sheet(x, 0, 1, 30 - number);
            CHECK.due("by number " + number + " alone", x.seen(0, 0, 3, 0), 1 << number);
        }
        Salons.sheet(x, 0, 1, 20);
        CHECK.due("10 is no number", x.seen(0, 0, 3, 0), 0);
        for (int share = 0; share <= 10; share++) {
            Salons.sheet(x, 0, 1, 30 + share);
            CHECK.due("by share " + share + " alone", x.seen(0, 0, 4, 0), 1 << share);
        }
        Salons.sheet(x, 0, 1, 41);
        CHECK.due("11 is no share", x.seen(0, 0, 4, 0), 0);
        x.hand(0, 0, 0);
        Salons.sheet(x, 0, 1, 30);
        CHECK.due("of a hand that does nothing: all numbers", x.seen(0, 0, 3, 1), (1 << 10) - 1);
        CHECK.due("of a hand that does nothing: all shares", x.seen(0, 0, 4, 1), (1 << 11) - 1);
    }

    /** "TEXTS (bits), were they THE RULE": those that there are, 6 at most. */
    private static void bitsOfTexts() {
        AsLastTime x = Salons.plain(199, 1);
        for (int texts = 1; texts <= 6; texts++) {
            Salons.sheet(x, 0, 1, 40);
            CHECK.due("by text 0 alone of " + texts, x.seen(0, 0, 5, 0), 1);
            for (int text = 1; text < texts; text++) {
                Salons.sheet(x, 0, 1, 40 + text);
                CHECK.due("by text " + text + " alone of " + texts, x.seen(0, 0, 5, 0), 1 << text);
            }
            Salons.sheet(x, 0, 1, 40 + texts);
            CHECK.due("by none of " + texts, x.seen(0, 0, 5, 0), 0);
            Salons.read(x, "grows " + texts + ";evens 1;minds 1;");
        }
        for (int of : new int[] {-1, 1, 99, Integer.MIN_VALUE, Integer.MAX_VALUE}) {
            Salons.sheet(x, 0, 1, 45);
            CHECK.due("of " + of + " does not matter", x.seen(0, 0, 5, of), 32);
        }
        CHECK.due("the rule stays", x.count(4), 0);
    }

    /** A SHEET that tells nothing is never otherwise. */
    private static void nothingTold() {
        AsLastTime x = steps(3, 2);
        for (int sort = 0; sort < 3; sort++) {
            x.sheet(0, sort, 0);
            CHECK.due("pictures of nothing told", x.pictures(0, 0), NONE);
            int[] all = {7, 15, (1 << 21) - 1, 1023, 2047, 3};
            for (int what = 0; what < 6; what++) {
                CHECK.due("seen of nothing told: what " + what, x.seen(0, 0, what, 1), all[what]);
            }
        }
        AsLastTime y = new AsLastTime();
        y.sheet(0, 2, 0);
        CHECK.due("without visits", y.pictures(0, 3), NONE);
        CHECK.due("without visits", y.seen(0, 3, 5, 0), 1);
        y.sheet(0, 2, 1);
        CHECK.due("without visits, one told", y.pictures(0, 3), BAD);
        CHECK.due("without visits, one told", y.seen(0, 3, 5, 0), BAD);
    }

    /** "BAD: SHEET, PLACE, what, of; -11; BAD: likewise." */
    private static void asNamedFirst() {
        AsLastTime x = steps(2, 1);
        CHECK.due("nothing", x.pictures(0, 3), -11);
        CHECK.due("no place, of nothing", x.pictures(0, 4), BAD);
        CHECK.due("nothing", x.seen(0, 0, 3, 1), -11);
        CHECK.due("no hand, of nothing", x.seen(0, 0, 3, 2), BAD);
        CHECK.due("nothing", x.seen(0, 0, 0, 0), -11);
        CHECK.due("no visit, of nothing", x.seen(0, 0, 0, 1), BAD);
        CHECK.due("no visit -1, of nothing", x.seen(0, 0, 2, -1), BAD);
        CHECK.due("no what, of nothing", x.seen(0, 0, 6, 0), BAD);
        CHECK.due("nothing", x.seen(0, 0, 5, 2), -11);
    }

    /** "LENGTHS of a PLACE behind the first n VISITS (shorts): n. BAD." */
    private static void filmOfNoneToAll() {
        for (int n = 0; n <= 8; n++) {
            AsLastTime x = steps(5, 8);
            Salons.sheet(x, 2, 2, 9, 9, 9, 9, 9, 9, 9, 9, 9, 9);
            CHECK.due("film of " + n, x.film(2, 3, n), n);
            CHECK.due("as they are", x.pictures(2, 3), NONE);
            CHECK.due("shorts", x.visits(2, 1, 0, 0), 0);
            CHECK.due("no item " + n, x.cell(2, n, 0), -12);
            CHECK.due("item " + (n - 1), x.cell(2, n - 1, 0), n > 0 ? 1 : -12);
            CHECK.due("otherwise now", x.pictures(2, 3), n > 0 ? n - 1 : NONE);
        }
        AsLastTime x = Salons.loose(30, 0);
        for (int visits = 0; visits <= 8; visits++) {
            CHECK.due("film of 1 more than " + visits, x.film(0, 0, visits + 1), BAD);
            CHECK.due("film of " + visits, x.film(1, 0, visits), visits);
            CHECK.due("the refused one is missing", x.pictures(0, 0), -11);
            x.visit(0, 0);
        }
        CHECK.due("film of -1", x.film(0, 0, -1), BAD);
        AsLastTime y = Salons.loose(199, 1);
        Salons.places(y, 0, 199, 150, 130, 128);
        for (int place = 0; place < 4; place++) {
            y.film(0, place, 1);
            CHECK.due("a long one has room in shorts", y.pictures(0, place), NONE);
        }
    }

    /** "DRAWN. NONE: there are no HANDS." */
    private static void drawnOfNoneAndOne() {
        AsLastTime x = new AsLastTime();
        x.image();
        for (int seed : new int[] {0, -1, 9, Integer.MIN_VALUE, Integer.MAX_VALUE}) {
            CHECK.due("no hands", x.drawn(seed), NONE);
        }
        x.hand(0, 0, 30);
        CHECK.due("no visits", x.drawn(5), 0);
        x.visit(0, 0);
        for (int seed : new int[] {0, -1, 9, Integer.MIN_VALUE, Integer.MAX_VALUE}) {
            CHECK.due("of one hand", x.drawn(seed), 40);
        }
        x.back();
        CHECK.due("no hands again", x.drawn(5), NONE);
    }

    /** "z = z * 1103515245 + 12345 (an int; SEED at first): of m HANDS number (z >>> 9) % m" */
    private static void drawnAsAnInt() {
        for (int hands = 1; hands <= 5; hands++) {
            AsLastTime x = steps(hands, 2);
            for (int seed : new int[] {0, 1, -1, 2, -2, Integer.MAX_VALUE, Integer.MIN_VALUE, 1 << 30, -99999}) {
                int first = seed * 1103515245 + 12345;
                int second = first * 1103515245 + 12345;
                int a = (first >>> 9) % hands;
                int b = (second >>> 9) % hands;
                int due = 4 * (1 + a) + 4 * (1 + Math.max(a, b));
                CHECK.due("of " + hands + " hands by seed " + seed, x.drawn(seed), due);
            }
        }
    }

    /** "IN n seeds (1 .. 20)"; "NO: n, part; there are no HANDS." */
    private static void chanceOfOneToTwenty() {
        AsLastTime none = new AsLastTime();
        for (int n : new int[] {0, 1, 20, 21}) {
            CHECK.due("no hands, n " + n, none.chance(1, n, 0), NO);
            CHECK.due("no hands, n " + n, none.chance(1, n, 1), NO);
        }
        AsLastTime x = steps(1, 1);
        for (int n : new int[] {Integer.MIN_VALUE, -1, 0, 21, 22, Integer.MAX_VALUE}) {
            CHECK.due("n " + n, x.chance(1, n, 0), NO);
            CHECK.due("n " + n, x.chance(1, n, 1), NO);
        }
        for (int part : new int[] {-1, 2, Integer.MIN_VALUE, Integer.MAX_VALUE}) {
            CHECK.due("part " + part, x.chance(1, 1, part), NO);
        }
        for (int n = 1; n <= 20; n++) {
            CHECK.due("of one hand in " + n, x.chance(1, n, 0), 1);
            CHECK.due("of one hand in " + n, x.chance(1, n, 1), 1);
        }
        CHECK.due("a hand alone", Salons.plain(0, 0).chance(1, 20, 1), 1);
    }

    /** "no more than now: part 0 above, 1 below the line, in lowest terms" */
    private static void chanceInLowestTerms() {
        AsLastTime x = Salons.ruled(new AsLastTime(), Salons.LOOSE);
        x.hand(0, 0, 40);
        x.hand(0, 0, 39);
        x.visit(0, 0);
        for (int n = 1; n <= 20; n++) {
            int hits = 0;
            for (int seed = 3; seed < 3 + n; seed++) {
                hits += ((seed * 1103515245 + 12345) >>> 9) % 2 == 0 ? 1 : 0;
            }
            int divisor = Math.max(1, n);
            while (hits % divisor != 0 || n % divisor != 0) {
                divisor--;
            }
            CHECK.due("above, of " + n, x.chance(3, n, 0), hits / divisor);
            CHECK.due("below, of " + n, x.chance(3, n, 1), n / divisor);
        }
        x.set(7, 0, 1);
        CHECK.due("as bad as now is no more", x.chance(3, 20, 0), 1);
        CHECK.due("as bad as now is no more", x.chance(3, 20, 1), 1);
        x.set(7, 0, 0);
        int worse = 0;
        while (x.drawn(worse) == 0) {
            worse++;
        }
        CHECK.due("none of one: 0", x.chance(worse, 1, 0), 0);
        CHECK.due("none of one: by 1", x.chance(worse, 1, 1), 1);
        AsLastTime y = steps(5, 8);
        for (int v = 0; v < 8; v++) {
            y.set(7, v, 0);
        }
        for (int n = 1; n <= 20; n++) {
            CHECK.due("none of " + n + ": 0", y.chance(1, n, 0), 0);
            CHECK.due("none of " + n + ": by 1", y.chance(1, n, 1), 1);
        }
    }

    /** "SEED and each 1 more (an int)" */
    private static void chanceOfSeedsThatWrap() {
        AsLastTime x = steps(5, 3);
        x.set(7, 0, 2);
        for (int n = 1; n <= 20; n += 6) {
            for (int seed : new int[] {Integer.MAX_VALUE, Integer.MAX_VALUE - 7, -3, Integer.MIN_VALUE}) {
                int hits = 0;
                for (int i = 0; i < n; i++) {
                    hits += x.drawn(seed + i) <= x.bad(0) ? 1 : 0;
                }
                CHECK.due("seeds from " + seed + " on, " + n, x.chance(seed, n, 0) * n, x.chance(seed, n, 1) * hits);
            }
        }
    }

    /** "STATE: there is none." */
    private static void noImage() {
        AsLastTime x = Salons.loose(30, 2);
        CHECK.due("none", x.back(), STATE);
        x.set(0, 0, 9);
        CHECK.due("none", x.back(), STATE);
        CHECK.due("nothing changes", x.told(0, 0), 9);
        CHECK.due("an image", x.image(), 2);
        x.set(0, 0, 8);
        CHECK.due("back", x.back(), 2);
        CHECK.due("back", x.told(0, 0), 9);
    }

    /** There is one IMAGE: the later one, as often as one goes back to it. */
    private static void theLaterImage() {
        AsLastTime x = Salons.loose(30, 0);
        for (int visits = 0; visits <= 8; visits++) {
            CHECK.due("an image of " + visits, x.image(), visits);
            x.set(0, 0, 100 + visits);
            CHECK.due("back to " + visits, x.back(), visits);
            CHECK.due("back to " + visits, x.told(0, 0), visits == 0 ? 40 : 50 + visits);
            x.set(0, 0, 7);
            CHECK.due("back again to " + visits, x.back(), visits);
            CHECK.due("back again to " + visits, x.told(0, 0), visits == 0 ? 40 : 50 + visits);
            x.set(0, 0, 51 + visits);
            x.visit(0, 0);
        }
        AsLastTime y = Salons.loose(30, 0);
        y.visit(0, 11);
        y.image();
        y.visit(0, 22);
        CHECK.due("fewer again", y.back(), 1);
        CHECK.due("it is not changed by what came behind it", y.visit(0, 32), 1);
        CHECK.due("it is not changed by what came behind it", y.back(), 1);
        CHECK.due("it is not changed by what came behind it", y.told(0, 8), 1);
    }

    /** "keeps LENGTHS, LAST, WANT, MARK, NUMBERS, SHARES, WISHES, all of VISITS": each of them by itself. */
    private static void eachIsKept() {
        int[] sizes = {4, 4, 4, 1, 2, 2, 2, 3, 3, 3};
        for (int what = 0; what < 10; what++) {
            for (int of = 0; of < sizes[what]; of++) {
                AsLastTime x = steps(2, 3);
                x.set(9, 1, 2);
                x.image();
                int was = x.told(of, what);
                CHECK.due("set(" + what + ", " + of + ", 1)", x.set(what, of, was == 1 ? 0 : 1), was);
                CHECK.due("back", x.back(), 3);
                CHECK.due("told(" + of + ", " + what + ") is back", x.told(of, what), was);
            }
        }
        AsLastTime y = Salons.loose(30, 3);
        y.image();
        y.go(1);
        y.back();
        for (int place = 0; place < 4; place++) {
            CHECK.due("LENGTH is back from a visit", y.told(place, 0), 40);
            CHECK.due("LAST is back from a visit", y.told(place, 1), 40);
        }
    }

    /** "(HANDS, VISITS that came since go)" */
    private static void whatCameSinceGoes() {
        AsLastTime x = steps(2, 2);
        x.image();
        int bad = x.bad(0);
        x.hand(5, 910, 0);
        x.hand(0, 0, 40);
        x.hand(0, 0, 40);
        for (int v = 2; v < 8; v++) {
            x.visit(v % 3 + 2, 203);
        }
        x.set(7, 0, 4);
        CHECK.due("back", x.back(), 2);
        CHECK.due("the hand of visit 0 is back", x.told(0, 7), 0);
        CHECK.due("badness is back", x.bad(0), bad);
        for (int h = 2; h < 5; h++) {
            for (int what : new int[] {4, 5, 6, 10}) {
                CHECK.due("hand " + h + " is gone", x.told(h, what), -100);
            }
            CHECK.due("hand " + h + " is gone", x.set(6, h, 1), -100);
            CHECK.due("hand " + h + " is gone", x.set(7, 0, h), -100);
            CHECK.due("hand " + h + " is gone", x.visit(h, 0), BAD);
            CHECK.due("hand " + h + " is gone", x.taken(h, 0), -11);
        }
        for (int v = 2; v < 8; v++) {
            CHECK.due("visit " + v + " is gone", x.told(v, 8), -100);
            CHECK.due("visit " + v + " is gone", x.once(v, 0), BAD);
            CHECK.due("visit " + v + " is gone", x.course(v, 0), BAD);
            CHECK.due("visit " + v + " is gone", x.film(0, 0, v + 1), BAD);
        }
        CHECK.due("say knows two", x.say(3, 0), BAD);
        Salons.sheet(x, 0, 1, 40);
        CHECK.due("seen knows two", x.seen(0, 0, 0, 0), 0);
        Salons.sheet(x, 0, 1);
        CHECK.due("seen knows two", x.seen(0, 0, 0, 0), 3);
        CHECK.due("whom knows two", x.whom(0), 0);
        for (int seed = 1; seed < 9; seed++) {
            CHECK.due("drawn knows two", x.drawn(seed), steps(2, 2).drawn(seed));
        }
    }

    /** TEXTS, THE TAPE and SHEETS are none of what it keeps. */
    private static void whatItDoesNotKeepStays() {
        AsLastTime x = Salons.plain(199, 2);
        x.sheet(0, 1, 2);
        x.feed('g');
        x.image();
        Salons.read(x, "rows 6;evens 5;minds 4;");
        x.feed('m');
        x.feed('i');
        Salons.sheet(x, 0, 1, 0, 12);
        Salons.sheet(x, 1, 0, 0, 11);
        x.back();
        CHECK.due("texts that came stay", x.count(2), 2);
        CHECK.due("the tape stays", x.count(3), 2);
        CHECK.due("a sheet stays as it is", Salons.item(x, 0, 1, 1), 12);
        CHECK.due("a sheet that came stays", Salons.item(x, 1, 0, 1), 11);
        x.force(1);
        CHECK.due("a text that came may be the rule", x.once(0, 0), 46);
    }

    /** "THE RULE" is kept, whichever it is. */
    private static void theRuleIsKept() {
        AsLastTime x = Salons.ruled(Salons.plain(199, 1), "grows 6;evens 5;minds 4;");
        x.image();
        CHECK.due("force", x.force(0), 1);
        x.back();
        CHECK.due("text 1 again", x.count(4), 1);
        CHECK.due("text 1 again", x.once(0, 0), 46);
        x.force(0);
        x.image();
        x.force(1);
        x.back();
        CHECK.due("text 0 again", x.force(1), 0);
    }

    /** "How many: .. BAD." */
    private static void counts() {
        AsLastTime x = new AsLastTime();
        Salons.places(x, 0, 0, 0, 0, 0);
        CHECK.due("lengths together, least", x.count(5), 0);
        Salons.places(x, 0, 199, 199, 199, 199);
        CHECK.due("lengths together, most", x.count(5), 796);
        for (int h = 0; h <= 5; h++) {
            CHECK.due("hands", x.count(0), h);
            x.hand(0, 0, 0);
        }
        for (int v = 0; v <= 8; v++) {
            CHECK.due("visits", x.count(1), v);
            x.visit(0, 0);
        }
        CHECK.due("five hands", x.count(0), 5);
        CHECK.due("eight visits", x.count(1), 8);
        CHECK.due("count(-1)", x.count(-1), BAD);
        CHECK.due("count(6)", x.count(6), BAD);
    }
}
