/** The bounds of promises 14 to 18: what is best, of like ones and of none, a test for each sentence. */
public final class EdgesOfBestTest {
    private static final Check CHECK = new Check("EdgesOfBestTest");
    private static final int BAD = AsLastTime.BAD, NONE = AsLastTime.NONE;

    public static void main(String[] args) {
        sayUpToFour();
        sayNoMoreThanThereAre();
        sayOfLikeOnes();
        sayLeavesTheOthers();
        whomOfLikeOnes();
        whomAtAllVisits();
        whomOfNone();
        whenFromNoneToTwenty();
        whenOfLikeOnes();
        markedByWantOfPlaceZero();
        markedWithoutVisits();
        againNoFurther();
        againBehindAllLaterOnes();
        againOfNone();
        CHECK.end();
    }

    /** "the first n VISITS (0 .. 4; ..)" */
    private static void sayUpToFour() {
        AsLastTime x = Salons.loose(10, 8);
        x.set(3, 0, 40);
        int[] digits = {0, 3, 33, 333, 3333};
        for (int n = 0; n <= 4; n++) {
            CHECK.due("say(" + n + ", 0)", x.say(n, 0), (8 - n) * 4 * 30);
            CHECK.due("say(" + n + ", 1)", x.say(n, 1), digits[n]);
        }
        for (int n : new int[] {-1, 5, 8}) {
            CHECK.due("say(" + n + ", 0)", x.say(n, 0), BAD);
            CHECK.due("say(" + n + ", 1)", x.say(n, 1), BAD);
        }
        CHECK.due("say(4, -1)", x.say(4, -1), BAD);
        CHECK.due("say(4, 2)", x.say(4, 2), BAD);
    }

    /** "BAD: also n above how many VISITS there are." */
    private static void sayNoMoreThanThereAre() {
        AsLastTime x = Salons.loose(10, 0);
        for (int visits = 0; visits <= 5; visits++) {
            for (int n = 0; n <= 5; n++) {
                boolean may = n <= visits && n <= 4;
                CHECK.due("say(" + n + ", 0) of " + visits, x.say(n, 0) == BAD ? 0 : 1, may ? 1 : 0);
                CHECK.due("say(" + n + ", 1) of " + visits, x.say(n, 1) == BAD ? 0 : 1, may ? 1 : 0);
            }
            x.visit(0, 0);
        }
    }

    /** "of like ones the first (by WORDS of VISIT 0, then VISIT 1, ..)" */
    private static void sayOfLikeOnes() {
        AsLastTime alike = Salons.loose(199, 4);
        for (int n = 0; n <= 4; n++) {
            CHECK.due("all alike", alike.say(n, 1), 0);
        }
        // behind words 1 2 it is 42 and 32, behind 2 1 it is 30 and 32: both are 6 and 4 off
        AsLastTime x = Salons.ruled(new AsLastTime(), "grows 5;evens 99;minds 1+9*(length=40);");
        x.hand(0, 10, 0);
        x.visit(0, 0);
        x.visit(0, 0);
        Salons.places(x, 2, 36, 36, 36, 36);
        CHECK.due("1 2 is as bad as 2 1", x.say(2, 0), 40);
        CHECK.due("1 2 is ahead of 2 1", x.say(2, 1), 12);
        x.set(9, 0, 2);
        x.set(9, 1, 1);
        CHECK.due("2 1 is so bad", x.bad(0), 40);
        CHECK.due("1 2 is the first, whatever is said now", x.say(2, 1), 12);
    }

    /** "(.. the others as they are)" */
    private static void sayLeavesTheOthers() {
        AsLastTime x = Salons.loose(10, 5);
        x.set(3, 0, 40);
        CHECK.due("the fifth stays without a word", x.say(4, 0), 4 * 30);
        x.set(9, 4, 3);
        CHECK.due("the fifth stays as marked", x.say(4, 0), 0);
        for (int v = 0; v < 5; v++) {
            CHECK.due("words are as they were", x.told(v, 9), v == 4 ? 3 : 0);
        }
        for (int n = 0; n < 4; n++) {
            CHECK.due("the others are cut to 10", x.say(n, 0), (5 - n) * 4 * 30);
        }
    }

    /** "of like ones the first" */
    private static void whomOfLikeOnes() {
        int[][] wishes = {{30, 30, 30, 30, 30}, {30, 31, 31, 30, 31}, {30, 30, 30, 30, 31}, {31, 30, 30, 31, 30}};
        int[] whom = {0, 1, 4, 0};
        int[] badness = {40, 36, 36, 36};
        for (int i = 0; i < wishes.length; i++) {
            AsLastTime x = new AsLastTime();
            for (int wish : wishes[i]) {
                x.hand(0, 0, wish);
            }
            x.visit(2, 0);
            CHECK.due("whom of case " + i, x.whom(0), whom[i]);
            CHECK.due("badness then of case " + i, x.whom(1), badness[i]);
        }
    }

    /** "were it the one of all VISITS" */
    private static void whomAtAllVisits() {
        AsLastTime x = Salons.ruled(new AsLastTime(), "grows 40-length;evens 99;minds 1;");
        x.hand(0, 0, 30);
        x.hand(0, 0, 31);
        for (int v = 0; v < 8; v++) {
            x.visit(0, 0);
            CHECK.due("at all of " + (v + 1), x.whom(0), 1);
            CHECK.due("at all of " + (v + 1), x.whom(1), (v + 1) * 4 * 9);
        }
        CHECK.due("at none truly", x.bad(0), 8 * 4 * 10);
    }

    /** "(what 0; NONE), BADNESS then (1; NONE)" */
    private static void whomOfNone() {
        AsLastTime x = new AsLastTime();
        CHECK.due("no hands", x.whom(0), NONE);
        CHECK.due("no hands", x.whom(1), NONE);
        CHECK.due("no hands, what -1", x.whom(-1), BAD);
        CHECK.due("no hands, what 2", x.whom(2), BAD);
        x.image();
        x.hand(0, 0, 0);
        CHECK.due("a hand, no visits", x.whom(0), 0);
        CHECK.due("a hand, no visits", x.whom(1), 0);
        CHECK.due("a hand, what -1", x.whom(-1), BAD);
        x.back();
        CHECK.due("the hand is gone", x.whom(0), NONE);
        CHECK.due("the hand is gone", x.whom(1), NONE);
        x.hand(0, 0, 30);
        x.image();
        x.hand(0, 0, 40);
        x.visit(0, 0);
        CHECK.due("the better one", x.whom(0), 1);
        x.back();
        x.visit(0, 0);
        CHECK.due("the better one is gone", x.whom(0), 0);
        CHECK.due("the better one is gone", x.whom(1), 40);
    }

    /** WEEKS are 0 .. 20: both ends may be best. */
    private static void whenFromNoneToTwenty() {
        AsLastTime x = Salons.plain(199, 1);
        int[][] wants = {{0, 0, 160}, {40, 0, 0}, {42, 1, 0}, {78, 19, 0}, {80, 20, 0}, {82, 20, 8}, {199, 20, 476}};
        for (int[] w : wants) {
            Salons.places(x, 2, w[0], w[0], w[0], w[0]);
            for (int weeks : new int[] {0, 7, 20}) {
                x.set(8, 0, weeks);
                CHECK.due("when to be " + w[0], x.when(0, 0), w[1]);
                CHECK.due("when to be " + w[0] + ": badness", x.when(0, 1), w[2]);
            }
        }
        AsLastTime y = Salons.plain(199, 8);
        CHECK.due("of visit 7", y.when(7, 0), 0);
        CHECK.due("of visit 8", y.when(8, 0), BAD);
        CHECK.due("of visit -1", y.when(-1, 0), BAD);
        CHECK.due("what 2", y.when(7, 2), BAD);
        CHECK.due("what -1", y.when(7, -1), BAD);
    }

    /** "of like ones the fewest" */
    private static void whenOfLikeOnes() {
        AsLastTime x = Salons.plain(199, 1);
        Salons.places(x, 2, 51, 51, 51, 51);
        CHECK.due("5 and 6 weeks are 1 off", x.when(0, 0), 5);
        CHECK.due("5 and 6 weeks are 1 off", x.when(0, 1), 4);
        AsLastTime y = Salons.plain(199, 1);
        Salons.places(y, 0, 199, 199, 199, 199);
        y.set(8, 0, 20);
        CHECK.due("all alike", y.when(0, 0), 0);
    }

    /** "was every WORD 3, MARK being WANT of PLACE 0, less BADNESS" */
    private static void markedByWantOfPlaceZero() {
        AsLastTime x = Salons.loose(40, 1);
        x.set(2, 0, 0);
        CHECK.due("a WANT of 0 is a mark", x.marked(), 3 * 40 - 40);
        x.set(2, 0, 199);
        CHECK.due("a WANT of 199 is a mark", x.marked(), 0);
        x.set(2, 0, 30);
        CHECK.due("WANT of place 0, not of another", x.marked(), 3 * 10 - 10);
        AsLastTime y = Salons.loose(30, 8);
        CHECK.due("every word of eight", y.marked(), -8 * 4 * 10);
        x.set(3, 0, 5);
        CHECK.due("whatever the mark is now", x.marked(), 3 * 10 - 10);
    }

    private static void markedWithoutVisits() {
        AsLastTime x = new AsLastTime();
        x.set(2, 0, 0);
        CHECK.due("without visits", x.marked(), 0);
        x.hand(0, 0, 0);
        CHECK.due("with a hand alone", x.marked(), 0);
    }

    /** "every LENGTH is no further from WANT than near (0 .. 199)" */
    private static void againNoFurther() {
        for (int place = 0; place < 4; place++) {
            for (int sign = -1; sign <= 1; sign += 2) {
                AsLastTime x = Salons.loose(199, 1);
                x.set(2, place, 40 + 7 * sign);
                CHECK.due("7 off, 8 is near", x.again(8), 0);
                CHECK.due("7 off, 7 is near", x.again(7), 0);
                CHECK.due("7 off, 6 is near", x.again(6), NONE);
            }
        }
        AsLastTime x = Salons.loose(199, 1);
        CHECK.due("0 off, 0 is near", x.again(0), 0);
        CHECK.due("near -1", x.again(-1), BAD);
        CHECK.due("near 200", x.again(200), BAD);
        x.set(0, 0, 0);
        x.set(2, 0, 199);
        CHECK.due("199 off, 199 is near", x.again(199), 0);
        CHECK.due("199 off, 198 is near", x.again(198), NONE);
    }

    /** "and behind all later ones, too" */
    private static void againBehindAllLaterOnes() {
        int[][] off = {{0, 0, 0}, {9, 0, 0}, {0, 9, 0}, {9, 9, 0}, {0, 0, 9}, {9, 0, 9}, {9, 9, 9}};
        int[] first = {0, 1, 2, 2, NONE, NONE, NONE};
        for (int i = 0; i < off.length; i++) {
            AsLastTime x = new AsLastTime();
            for (int v = 0; v < 3; v++) {
                x.hand(0, 0, 40 - off[i][v]);
                x.visit(v, 200);
            }
            CHECK.due("back again in case " + i, x.again(8), first[i]);
            CHECK.due("back again in case " + i + ", near 9", x.again(9), 0);
        }
    }

    /** "BAD; NONE." */
    private static void againOfNone() {
        AsLastTime x = new AsLastTime();
        CHECK.due("no visits", x.again(0), NONE);
        CHECK.due("no visits", x.again(199), NONE);
        CHECK.due("no visits, near -1", x.again(-1), BAD);
        CHECK.due("no visits, near 200", x.again(200), BAD);
    }
}
