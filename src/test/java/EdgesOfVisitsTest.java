/** The bounds of promises 9 to 13: how a visit cuts, evens and is off, a test for each sentence. */
public final class EdgesOfVisitsTest {
    private static final Check CHECK = new Check("EdgesOfVisitsTest");
    private static final int BAD = AsLastTime.BAD, NONE = AsLastTime.NONE;
    private static final int PLAIN = 0, SHORT = 1, TIMID = 2, CROOKED = 3, HALVING = 4, EXACT = 5;

    public static void main(String[] args) {
        shares();
        meansBelowZero();
        oddPlaces();
        halvesAreCutTowardZero();
        fives();
        lesserOfLongAndLeaves();
        wordsAtTheirEnds();
        markIfThereIsOne();
        at199();
        growsInAllTheseWeeks();
        furtherApart();
        thirtyTimes();
        eachTwo();
        lastIsLengthThen();
        offAtItsMost();
        once();
        go();
        courseOfOneAndOfEight();
        courseFromAsItIs();
        ofLikeOnesTheFirst();
        withoutAny();
        driftAtItsEnds();
        CHECK.end();
    }

    private static AsLastTime ruled(int wish, int visits, String text) {
        return Salons.ruled(Salons.plain(wish, visits), text);
    }

    /** Behind VISIT 0 by itself. */
    private static void lengthsDue(String what, AsLastTime x, int a, int b, int c, int d) {
        int[] due = {a, b, c, d};
        for (int place = 0; place < 4; place++) {
            CHECK.due(what + ": place " + place, x.once(0, place), due[place]);
        }
    }

    /** "(SHARE times m, and (10 less SHARE) times WISH) by 10 (cut)" */
    private static void shares() {
        for (int kind : new int[] {PLAIN, SHORT, CROOKED, EXACT}) {
            CHECK.due("share 0 is the wish", Salons.cut(kind, 0, 195, 0, 199, 0, 0), 195);
            CHECK.due("share 10 is what it remembers", Salons.cut(kind, 10, 0, 0, 199, 195, 0), 195);
            CHECK.due("share 10 of 0", Salons.cut(kind, 10, 199, 0, 199, 0, 0), 0);
            CHECK.due("share 0 of 0", Salons.cut(kind, 0, 0, 0, 199, 199, 0), 0);
        }
        CHECK.due("9 by 10", Salons.cut(PLAIN, 1, 0, 0, 199, 9, 0), 0);
        CHECK.due("10 by 10", Salons.cut(PLAIN, 1, 0, 0, 199, 10, 0), 1);
        CHECK.due("19 by 10", Salons.cut(PLAIN, 1, 0, 0, 199, 19, 0), 1);
        CHECK.due("9 by 10 of the wish", Salons.cut(PLAIN, 9, 9, 0, 199, 0, 0), 0);
        CHECK.due("10 by 10 of the wish", Salons.cut(PLAIN, 9, 10, 0, 199, 0, 0), 1);
        CHECK.due("together, then by 10: 5 and 5", Salons.cut(PLAIN, 5, 1, 0, 199, 1, 0), 1);
        CHECK.due("199 of both", Salons.cut(PLAIN, 5, 199, 0, 199, 199, 0), 199);
        CHECK.due("TIMID as a HAND, then (199 and 0) by 2", Salons.cut(TIMID, 10, 199, 0, 199, 0, 0), 99);
        CHECK.due("HALVING as a TIMID, then (199 and 99) by 2", Salons.cut(HALVING, 10, 199, 0, 199, 0, 0), 149);
    }

    /** "SHORT: NUMBER less than a HAND": also below 0, for 0 at least is LEFT in the end. */
    private static void meansBelowZero() {
        CHECK.due("NUMBER 0", Salons.cut(SHORT, 0, 30, 0, 100, 50, 0), 30);
        CHECK.due("NUMBER 9", Salons.cut(SHORT, 900, 30, 0, 100, 50, 0), 21);
        CHECK.due("9 less than 9", Salons.cut(SHORT, 900, 9, 0, 100, 50, 0), 0);
        CHECK.due("9 less than 10", Salons.cut(SHORT, 900, 10, 0, 100, 50, 0), 1);
        CHECK.due("9 less than 8", Salons.cut(SHORT, 900, 8, 0, 100, 50, 0), 0);
        CHECK.due("(20 and -9) by 2", Salons.cut(SHORT, 900, 0, 0, 20, 50, 1), 5);
        CHECK.due("(20 and -12) by 2", Salons.cut(CROOKED, 900, 0, 1, 20, 50, 1), 4);
        CHECK.due("(9 and -9) by 2", Salons.cut(SHORT, 900, 0, 0, 9, 50, 1), 0);
        CHECK.due("(11 and -9) by 2", Salons.cut(SHORT, 900, 0, 0, 11, 50, 1), 1);
    }

    /** "CROOKED: 3 less than a SHORT, if p is odd, else as a SHORT" */
    private static void oddPlaces() {
        for (int place = 0; place < 4; place++) {
            int less = place % 2 == 0 ? 0 : 3;
            CHECK.due("CROOKED, NUMBER 0", Salons.cut(CROOKED, 0, 30, place, 100, 50, 0), 30 - less);
            CHECK.due("CROOKED, NUMBER 9", Salons.cut(CROOKED, 900, 30, place, 100, 50, 0), 21 - less);
            CHECK.due("CROOKED at 0", Salons.cut(CROOKED, 0, 2, place, 100, 50, 0), Math.max(0, 2 - less));
            CHECK.due("SHORT", Salons.cut(SHORT, 900, 30, place, 100, 50, 0), 21);
            CHECK.due("EXACT", Salons.cut(EXACT, 900, 30, place, 100, 50, 0), 30);
        }
    }

    /** "Quotients are cut toward 0." */
    private static void halvesAreCutTowardZero() {
        int[] timid = {0, 0, 1, 1, 2, 2};
        int[] halving = {0, 0, 1, 2, 3, 3};
        for (int is = 0; is < timid.length; is++) {
            CHECK.due("TIMID, " + is + " to 0", Salons.cut(TIMID, 0, 0, 0, is, 50, 0), timid[is]);
            CHECK.due("HALVING, " + is + " to 0", Salons.cut(HALVING, 0, 0, 0, is, 50, 0), halving[is]);
            CHECK.due("not too short, " + is + " to 0", Salons.cut(PLAIN, 0, 0, 0, is, 50, 1), timid[is]);
        }
        CHECK.due("(4 and -9) by 2 is -2; (4 and -2) by 2", Salons.cut(HALVING, 0, 1, 0, 4, 50, 2), 1);
        CHECK.due("(4 and -5) by 2 is 0; (4 and 0) by 2", Salons.cut(HALVING, 0, 5, 0, 4, 50, 2), 2);
        CHECK.due("(3 and -10) by 2 is -3; (3 and -3) by 2", Salons.cut(HALVING, 0, 0, 0, 3, 50, 2), 0);
        CHECK.due("(1 and -10) by 2 is -4; (1 and -4) by 2 is -1", Salons.cut(HALVING, 0, 0, 0, 1, 50, 2), 0);
        CHECK.due("TIMID, (11 and -10) by 2", Salons.cut(TIMID, 0, 0, 0, 11, 50, 2), 0);
        CHECK.due("TIMID, (12 and -10) by 2", Salons.cut(TIMID, 0, 0, 0, 12, 50, 2), 1);
        CHECK.due("TIMID, (9 and -10) by 2", Salons.cut(TIMID, 0, 0, 0, 9, 50, 2), 0);
    }

    /** "EXACT: e less e modulo 5" */
    private static void fives() {
        for (int wish = 0; wish <= 199; wish++) {
            CHECK.due("EXACT of " + wish, Salons.cut(EXACT, 0, wish, 0, 199, 50, 0), wish - wish % 5);
        }
        CHECK.due("EXACT of -1", Salons.cut(EXACT, 0, 9, 0, 100, 50, 2), 0);
        CHECK.due("EXACT of -10", Salons.cut(EXACT, 0, 0, 0, 100, 50, 2), 0);
    }

    /** "LEFT in the end is the lesser of LONG and LEAVES, 0 at least" */
    private static void lesserOfLongAndLeaves() {
        for (int kind : new int[] {PLAIN, SHORT, CROOKED, EXACT}) {
            CHECK.due("means as much", Salons.cut(kind, 0, 50, 0, 50, 50, 0), 50);
            CHECK.due("means more", Salons.cut(kind, 0, 55, 0, 50, 50, 0), 50);
            CHECK.due("means far more", Salons.cut(kind, 0, 199, 0, 1, 50, 0), 1);
            CHECK.due("has none", Salons.cut(kind, 0, 199, 0, 0, 50, 0), 0);
        }
        CHECK.due("means 1 more", Salons.cut(PLAIN, 0, 51, 0, 50, 50, 0), 50);
        CHECK.due("means 1 less", Salons.cut(PLAIN, 0, 49, 0, 50, 50, 0), 49);
        CHECK.due("EXACT of 57 at 54", Salons.cut(EXACT, 0, 57, 0, 54, 50, 0), 54);
        CHECK.due("EXACT of 57 at 55", Salons.cut(EXACT, 0, 57, 0, 55, 50, 0), 55);
        CHECK.due("EXACT of 57 at 56", Salons.cut(EXACT, 0, 57, 0, 56, 50, 0), 55);
        for (int kind : new int[] {TIMID, HALVING}) {
            CHECK.due("means as much", Salons.cut(kind, 0, 50, 0, 50, 50, 0), 50);
            CHECK.due("means more", Salons.cut(kind, 0, 51, 0, 50, 50, 0), 50);
            CHECK.due("means far more", Salons.cut(kind, 0, 199, 0, 2, 50, 0), 2);
        }
        CHECK.due("TIMID means 1 less: 99 by 2", Salons.cut(TIMID, 0, 49, 0, 50, 50, 0), 49);
        CHECK.due("HALVING means 1 less: 99 by 2", Salons.cut(HALVING, 0, 49, 0, 50, 50, 0), 49);
    }

    /** "1: e is (LONG and e) by 2 (cut); 2: e is 10 less" */
    private static void wordsAtTheirEnds() {
        CHECK.due("0: none", Salons.cut(PLAIN, 0, 30, 0, 41, 50, 0), 30);
        CHECK.due("1: 71 by 2", Salons.cut(PLAIN, 0, 30, 0, 41, 50, 1), 35);
        CHECK.due("1: of more than there is", Salons.cut(PLAIN, 0, 60, 0, 41, 50, 1), 41);
        CHECK.due("1: EXACT of (54 and 60) by 2 is 55", Salons.cut(EXACT, 0, 60, 0, 54, 50, 1), 54);
        CHECK.due("2: of 11", Salons.cut(PLAIN, 0, 11, 0, 41, 50, 2), 1);
        CHECK.due("2: of 10", Salons.cut(PLAIN, 0, 10, 0, 41, 50, 2), 0);
        CHECK.due("2: of 9", Salons.cut(PLAIN, 0, 9, 0, 41, 50, 2), 0);
        CHECK.due("2: of 50", Salons.cut(PLAIN, 0, 50, 0, 41, 50, 2), 40);
        CHECK.due("2: of 51", Salons.cut(PLAIN, 0, 51, 0, 41, 50, 2), 41);
        CHECK.due("2: of 52", Salons.cut(PLAIN, 0, 52, 0, 41, 50, 2), 41);
        CHECK.due("3: without a mark", Salons.cut(PLAIN, 0, 30, 0, 41, 50, 3), 30);
    }

    /** "3: e is MARK, if there is one" */
    private static void markIfThereIsOne() {
        int[] marks = {NONE, 0, 1, 40, 41, 42, 199};
        int[] left = {30, 0, 1, 40, 41, 41, 41};
        for (int i = 0; i < marks.length; i++) {
            AsLastTime x = Salons.loose(30, 1);
            x.set(9, 0, 3);
            x.set(3, 0, marks[i]);
            Salons.places(x, 0, 41, 41, 41, 41);
            lengthsDue("mark " + marks[i], x, left[i], left[i], left[i], left[i]);
            for (int word = 0; word < 3; word++) {
                x.set(9, 0, word);
                int[] without = {30, 35, 20};
                CHECK.due("mark " + marks[i] + ", not said", x.once(0, 0), without[word]);
            }
        }
    }

    /** "each LENGTH is grows more (199 at most)" */
    private static void at199() {
        int[][] grown = {{197, 1, 198}, {198, 1, 199}, {199, 1, 199}, {100, 98, 198}, {100, 99, 199}, {101, 99, 199},
            {199, 99, 199}, {199, 0, 199}, {0, 0, 0}, {0, 99, 99}};
        for (int[] g : grown) {
            AsLastTime x = ruled(199, 1, "grows " + g[1] + ";evens 99;minds 1;");
            Salons.places(x, 0, g[0], g[0], g[0], g[0]);
            lengthsDue(g[0] + " grows " + g[1], x, g[2], g[2], g[2], g[2]);
        }
        AsLastTime x = ruled(0, 1, "grows 99;evens 99;minds 1;");
        x.set(9, 0, 1);
        Salons.places(x, 0, 199, 199, 199, 199);
        CHECK.due("LONG is 199 at most: (199 and 0) by 2", x.once(0, 0), 99);
    }

    /** "how much in all these WEEKS (0 .. 99, else the bound)" */
    private static void growsInAllTheseWeeks() {
        AsLastTime x = ruled(199, 1, "grows weeks*5;evens 99;minds 1;");
        int[][] weeks = {{0, 0}, {1, 5}, {19, 95}, {20, 99}};
        for (int[] w : weeks) {
            x.set(8, 0, w[0]);
            CHECK.due("in " + w[0] + " weeks", x.once(0, 0), 40 + w[1]);
        }
    }

    /** "as long as LENGTHS of the two are further apart than evens tells, the longer one is cut to 1 less" */
    private static void furtherApart() {
        for (int evens : new int[] {0, 1, 2, 98, 99}) {
            String rule = "grows 0;evens " + evens + ";minds 1;";
            AsLastTime x = ruled(199, 1, rule);
            Salons.places(x, 0, 50, 50 + evens, 50 + evens, 50);
            lengthsDue("as far apart as " + evens, x, 50, 50 + evens, 50 + evens, 50);
            CHECK.due("no cut", x.once(0, 4), 0);
        }
        for (int evens : new int[] {1, 2, 98, 99}) {
            AsLastTime x = ruled(199, 1, "grows 0;evens " + evens + ";minds 1;");
            Salons.places(x, 0, 50, 51 + evens, 51 + evens, 50);
            lengthsDue("1 further apart than " + evens, x, 50, 49, 49, 50);
            CHECK.due("a cut each", x.once(0, 4), 2);
            Salons.places(x, 0, 0, 1 + evens, 1 + evens, 0);
            lengthsDue("0 at least", x, 0, 0, 0, 0);
            CHECK.due("a cut each", x.once(0, 4), 2);
            Salons.places(x, 0, 1, 2 + evens, 2 + evens, 1);
            lengthsDue("1 less than 1", x, 1, 0, 0, 1);
        }
    }

    /** "30 times at most for each two (CUTS: how often in all)" */
    private static void thirtyTimes() {
        AsLastTime x = ruled(199, 1, "grows 0;evens 0;minds 1;");
        for (int a = 0; a <= 29; a++) {
            Salons.places(x, 0, a, a + 1, 7, 7);
            if (a % 7 == 0 || a > 27) {
                lengthsDue(a + " and 1 more", x, 0, 0, 7, 7);
                CHECK.due(a + " and 1 more: CUTS", x.once(0, 4), a + 1);
            }
        }
        Salons.places(x, 0, 30, 31, 7, 7);
        lengthsDue("30 times, 31 would be too many", x, 0, 1, 7, 7);
        CHECK.due("30 times", x.once(0, 4), 30);
        Salons.places(x, 0, 7, 7, 31, 30);
        lengthsDue("the other two: 30 times", x, 7, 7, 1, 0);
        CHECK.due("30 times", x.once(0, 4), 30);
        Salons.places(x, 0, 199, 198, 198, 199);
        lengthsDue("30 times for each two", x, 169, 168, 168, 169);
        CHECK.due("60 times in all", x.once(0, 4), 60);
        Salons.places(x, 0, 0, 1, 1, 0);
        CHECK.due("once for each two", x.once(0, 4), 2);
        CHECK.due("in a course", x.bad(1), 2);
        AsLastTime y = Salons.ruled(new AsLastTime(), "grows 10;evens 1;minds 1;");
        y.hand(3, 0, 30);
        for (int visits = 1; visits <= 8; visits++) {
            y.visit(0, 0);
            CHECK.due("in a course of " + visits, y.bad(1), 2 * visits);
        }
    }

    /** "of PLACES 0 and 1, then of 2 and 3" */
    private static void eachTwo() {
        AsLastTime x = ruled(199, 1, "grows 0;evens 0;minds 1;");
        Salons.places(x, 0, 90, 90, 10, 10);
        lengthsDue("1 and 2 are no two sides", x, 90, 90, 10, 10);
        Salons.places(x, 0, 10, 10, 90, 90);
        lengthsDue("nor 0 and 3", x, 10, 10, 90, 90);
        CHECK.due("no cut", x.once(0, 4), 0);
    }

    /** "Then LAST of each is LENGTH": behind the evening, and at none sooner. */
    private static void lastIsLengthThen() {
        AsLastTime x = ruled(199, 1, "grows 0;evens 9*(last=40);minds 1;");
        Salons.places(x, 0, 30, 35, 50, 45);
        CHECK.due("evens by what LAST was", x.once(0, 4), 0);
        CHECK.due("go", x.go(0), 10 + 5 + 10 + 5);
        int[] due = {30, 35, 50, 45};
        for (int place = 0; place < 4; place++) {
            CHECK.due("LAST of " + place, x.told(place, 1), due[place]);
        }
        AsLastTime y = ruled(199, 1, "grows 0;evens 0;minds 1;");
        Salons.places(y, 0, 1, 2, 50, 50);
        y.go(0);
        CHECK.due("LAST is what evening left", y.told(0, 1), 0);
        CHECK.due("LAST is what evening left", y.told(1, 1), 0);
    }

    /** "of all PLACES how far LENGTH is from WANT times minds, together" */
    private static void offAtItsMost() {
        AsLastTime x = ruled(0, 8, "grows 0;evens 99;minds 99;");
        Salons.places(x, 2, 199, 199, 199, 199);
        CHECK.due("0 is 199 off, by 99", x.once(0, 5), 4 * 199 * 99);
        CHECK.due("eight times", x.bad(0), 8 * 4 * 199 * 99);
        Salons.places(x, 2, 0, 0, 0, 0);
        CHECK.due("none is off", x.once(0, 5), 0);
        AsLastTime y = Salons.loose(199, 1);
        Salons.places(y, 0, 10, 11, 12, 13);
        Salons.places(y, 2, 9, 11, 13, 13);
        CHECK.due("1 too long and 1 too short", y.once(0, 5), 2);
    }

    /** "LENGTH of PLACE what then (0 .. 3), CUTS (4), OFF (5). BAD." */
    private static void once() {
        AsLastTime x = ruled(30, 8, "grows 0;evens 0;minds 1;");
        for (int visit = 0; visit < 8; visit++) {
            CHECK.due("once(" + visit + ", 3)", x.once(visit, 3), 30);
            CHECK.due("once(" + visit + ", 4)", x.once(visit, 4), 0);
            CHECK.due("once(" + visit + ", 5)", x.once(visit, 5), 40);
        }
        for (int visit : new int[] {-1, 8}) {
            CHECK.due("once(" + visit + ", 0)", x.once(visit, 0), BAD);
            CHECK.due("go(" + visit + ")", x.go(visit), BAD);
        }
        CHECK.due("once(7, -1)", x.once(7, -1), BAD);
        CHECK.due("once(7, 6)", x.once(7, 6), BAD);
        CHECK.due("none of them truly", x.count(5), 160);
    }

    /** "That truly: OFF then." */
    private static void go() {
        AsLastTime x = Salons.loose(30, 8);
        x.set(9, 7, 2);
        CHECK.due("the last visit", x.go(7), 80);
        CHECK.due("truly", x.count(5), 80);
        CHECK.due("again", x.go(7), 80);
        CHECK.due("the first visit", x.go(0), 80);
        CHECK.due("visits stay", x.count(1), 8);
    }

    /** "A COURSE: LENGTH of a PLACE behind a VISIT." */
    private static void courseOfOneAndOfEight() {
        AsLastTime x = new AsLastTime();
        for (int h = 0; h < 4; h++) {
            x.hand(0, 0, 38 - 3 * h);
        }
        for (int visit = 0; visit < 8; visit++) {
            CHECK.due("there is no visit " + visit, x.course(visit, 0), BAD);
            x.visit(visit / 2, 0);
            for (int v = 0; v <= visit; v++) {
                CHECK.due("behind visit " + v, x.course(v, visit % 4), 38 - 3 * (v / 2));
            }
            CHECK.due("behind none", x.course(-1, 0), BAD);
            CHECK.due("no place", x.course(visit, -1), BAD);
            CHECK.due("no place", x.course(visit, 4), BAD);
        }
    }

    /** "from LENGTHS, LAST as they are" */
    private static void courseFromAsItIs() {
        for (int last : new int[] {0, 1, 39, 40}) {
            AsLastTime x = Salons.ruled(new AsLastTime(), Salons.LOOSE);
            x.hand(0, 10, 0);
            x.visit(0, 0);
            x.visit(0, 0);
            x.set(1, 2, last);
            CHECK.due("LAST " + last + ": remembered at visit 0", x.course(0, 2), last);
            CHECK.due("LAST " + last + ": left at visit 1", x.course(1, 2), last);
            CHECK.due("LAST " + last + ": drift", x.drift(2), last - 40);
            x.set(1, 2, 199);
            x.set(0, 2, last);
            CHECK.due("LENGTH " + last, x.course(1, 2), last);
        }
    }

    /** "the VISIT behind which OFF is most, of like ones the first" */
    private static void ofLikeOnesTheFirst() {
        int[][] wishes = {{30, 30, 30}, {40, 30, 30}, {40, 39, 30}, {40, 40, 40}, {39, 40, 40}};
        int[] first = {0, 1, 2, 0, 0};
        for (int i = 0; i < wishes.length; i++) {
            AsLastTime x = new AsLastTime();
            for (int v = 0; v < 3; v++) {
                x.hand(0, 0, wishes[i][v]);
                x.visit(v, 200);
            }
            CHECK.due("most off of case " + i, x.bad(3), first[i]);
        }
    }

    /** "behind the last VISIT (2; without any: as it is now)", "(3; NONE)", "without VISITS: as it is now" */
    private static void withoutAny() {
        AsLastTime x = Salons.plain(0, 0);
        Salons.places(x, 0, 10, 20, 30, 199);
        Salons.places(x, 2, 11, 19, 30, 0);
        int[] bad = {0, 0, 1 + 1 + 199, NONE};
        for (int what = 0; what < 4; what++) {
            CHECK.due("without visits: bad(" + what + ")", x.bad(what), bad[what]);
        }
        int[] drift = {-1, 1, 0, 199};
        for (int place = 0; place < 4; place++) {
            CHECK.due("without visits: drift(" + place + ")", x.drift(place), drift[place]);
        }
        CHECK.due("bad(-1)", x.bad(-1), BAD);
        CHECK.due("bad(4)", x.bad(4), BAD);
        x.visit(0, 0);
        CHECK.due("with one: bad(0)", x.bad(0), 11 + 19 + 30);
        CHECK.due("with one: bad(2)", x.bad(2), 11 + 19 + 30);
        CHECK.due("with one: bad(3)", x.bad(3), 0);
        CHECK.due("with one: drift(3)", x.drift(3), 0);
    }

    /** "DRIFT. -1000: no such PLACE." */
    private static void driftAtItsEnds() {
        AsLastTime x = Salons.loose(199, 1);
        Salons.places(x, 0, 0, 1, 199, 198);
        Salons.places(x, 2, 199, 0, 0, 199);
        int[] due = {-199, 1, 199, -1};
        for (int place = 0; place < 4; place++) {
            CHECK.due("drift(" + place + ")", x.drift(place), due[place]);
        }
        CHECK.due("drift(-1)", x.drift(-1), -1000);
        CHECK.due("drift(4)", x.drift(4), -1000);
    }
}
