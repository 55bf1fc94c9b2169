/** Promises 14 to 18: say, whom, when, marked, again. */
public final class BestTest {
    private static final Check CHECK = new Check("BestTest");

    public static void main(String[] args) {
        saying();
        sayingOfLikeOnes();
        sayRefuses();
        whom();
        whomRefuses();
        when();
        whenRefuses();
        marked();
        again();
        CHECK.end();
    }

    /** Badness with these words said, asked of an object like it. */
    private static int badnessSaying(int salon, int... words) {
        AsLastTime x = salon(salon);
        for (int v = 0; v < words.length; v++) {
            x.set(9, v, words[v]);
        }
        return x.bad(0);
    }

    private static AsLastTime salon(int which) {
        AsLastTime x = new AsLastTime();
        x.hand(1, 305, 50);
        x.hand(2, 4, 25);
        x.hand(3, 106, 60);
        int[] hands = {0, 1, 2, 1, 0, 2};
        int[] whats = {31, 50, 92, 23, 61, 40};
        for (int v = 0; v < 6; v++) {
            x.visit(hands[(v + which) % 6], whats[(v * (which + 1)) % 6]);
        }
        Salons.places(x, 2, 40 + which, 38, 30 + 5 * which, 44);
        x.set(3, 0, which % 2 == 0 ? 33 : AsLastTime.NONE);
        return x;
    }

    private static void saying() {
        for (int which = 0; which < 6; which++) {
            for (int n = 0; n <= 4; n++) {
                int least = Integer.MAX_VALUE;
                int digits = 0;
                for (int way = 0; way < Math.pow(4, n); way++) {
                    int[] words = new int[n];
                    int shown = 0;
                    for (int v = 0; v < n; v++) {
                        words[v] = way / (int) Math.pow(4, n - 1 - v) % 4;
                        shown = 10 * shown + words[v];
                    }
                    int badness = badnessSaying(which, words);
                    if (badness < least) {
                        least = badness;
                        digits = shown;
                    }
                }
                AsLastTime x = salon(which);
                CHECK.due("salon " + which + " say(" + n + ", 0)", x.say(n, 0), least);
                CHECK.due("salon " + which + " say(" + n + ", 1)", x.say(n, 1), digits);
                CHECK.due("words are not said", x.bad(0), badnessSaying(which));
            }
        }
    }

    private static void sayingOfLikeOnes() {
        // cut to 10 and to 0 by 2; nothing grows, so that all is as near as 40 only by 3
        AsLastTime x = Salons.ruled(Salons.plain(10, 4), "grows 0;evens 99;minds 1;");
        x.set(3, 0, 40);
        CHECK.due("marked first, then: all is cut to 10", x.say(1, 0), 3 * 4 * 30);
        CHECK.due("marked first", x.say(1, 1), 3);
        CHECK.due("marked four times", x.say(4, 0), 0);
        CHECK.due("marked four times", x.say(4, 1), 3333);
        x.set(9, 0, 3);
        x.set(9, 1, 2);
        CHECK.due("the others as they are", x.say(1, 0), 4 * (0 + 40 + 40 + 40));
        AsLastTime y = Salons.plain(199, 4);
        CHECK.due("like ones: the first", y.say(4, 1), 0);
        CHECK.due("like ones: the first", y.say(3, 1), 0);
        y.set(9, 0, 2);
        CHECK.due("words are put anew", y.say(2, 1), 0);
        AsLastTime z = Salons.plain(40, 2);
        Salons.places(z, 2, 30, 30, 30, 30);
        CHECK.due("shorter once; then none is nearer", z.say(2, 0), 0);
        CHECK.due("visit 0 is the highest digit", z.say(2, 1), 20);
        Salons.places(z, 2, 40, 40, 40, 40);
        z.set(8, 1, 5);
        z.set(6, 0, 50);
        CHECK.due("visit 1 is the lowest digit", z.say(2, 1), 2);
    }

    private static void sayRefuses() {
        AsLastTime x = Salons.plain(30, 3);
        CHECK.due("say: n 5", x.say(5, 0), AsLastTime.BAD);
        CHECK.due("say: n -1", x.say(-1, 0), AsLastTime.BAD);
        CHECK.due("say: n above how many visits", x.say(4, 0), AsLastTime.BAD);
        CHECK.due("say: what 2", x.say(0, 2), AsLastTime.BAD);
        CHECK.due("say: what -1", x.say(0, -1), AsLastTime.BAD);
        // not too short is 35, then 32, then 31
        CHECK.due("say: as many as there are", x.say(3, 0), 4 * (5 + 8 + 9));
        CHECK.due("say: as many as there are", x.say(3, 1), 111);
        x.visit(0, 0);
        x.visit(0, 0);
        CHECK.due("say: n 5 of 5", x.say(5, 0), AsLastTime.BAD);
        CHECK.due("say: n 0", x.say(0, 0), 200);
        CHECK.due("say: n 0", x.say(0, 1), 0);
    }

    private static void whom() {
        AsLastTime x = new AsLastTime();
        x.hand(0, 0, 30);
        x.hand(0, 0, 41);
        x.hand(0, 0, 35);
        x.visit(0, 50);
        x.visit(2, 50);
        CHECK.due("whom", x.whom(0), 1);
        CHECK.due("whom: 41 41", x.whom(1), 8);
        CHECK.due("hands stay", x.bad(0), 4 * (10 + 5));
        x.set(6, 2, 39);
        CHECK.due("like ones: the first", x.whom(0), 1);
        x.set(6, 0, 39);
        CHECK.due("like ones: the first", x.whom(0), 0);
        x.set(6, 2, 40);
        CHECK.due("the last one", x.whom(0), 2);
        CHECK.due("the last one", x.whom(1), 0);
        AsLastTime y = new AsLastTime();
        y.hand(0, 0, 30);
        y.hand(0, 0, 40);
        CHECK.due("without visits: hand 0", y.whom(0), 0);
        CHECK.due("without visits: 0", y.whom(1), 0);
    }

    private static void whomRefuses() {
        AsLastTime x = new AsLastTime();
        CHECK.due("whom: no hands", x.whom(0), AsLastTime.NONE);
        CHECK.due("whom: no hands", x.whom(1), AsLastTime.NONE);
        CHECK.due("whom: what 2", x.whom(2), AsLastTime.BAD);
        CHECK.due("whom: what -1", x.whom(-1), AsLastTime.BAD);
        x.hand(0, 0, 0);
        CHECK.due("whom: what 2", x.whom(2), AsLastTime.BAD);
    }

    private static void when() {
        AsLastTime x = Salons.plain(199, 3);
        x.set(8, 0, 4);
        x.set(8, 1, 7);
        Salons.places(x, 2, 70, 70, 70, 70);
        // 48, 62, 62; best is 48, 70, 70 or 62 or so: by 11 weeks
        CHECK.due("when(1)", x.when(1, 0), 11);
        CHECK.due("when(1)", x.when(1, 1), 4 * 22);
        CHECK.due("when(0): 54, 68, 68 or 56, 70, 70", x.when(0, 0), 8);
        CHECK.due("when(0)", x.when(0, 1), 4 * 14);
        CHECK.due("when(2)", x.when(2, 0), 4);
        CHECK.due("when(2)", x.when(2, 1), 4 * (22 + 8));
        CHECK.due("weeks stay", x.told(2, 8), 0);
        CHECK.due("weeks stay", x.bad(0), 4 * (22 + 8 + 8));
        Salons.places(x, 2, 199, 199, 199, 199);
        CHECK.due("20 weeks", x.when(2, 0), 20);
        CHECK.due("20 weeks", x.when(0, 0), 20);
        AsLastTime y = Salons.plain(30, 2);
        CHECK.due("like ones: the fewest", y.when(0, 0), 0);
        CHECK.due("like ones: the fewest", y.when(1, 1), 80);
    }

    private static void whenRefuses() {
        AsLastTime x = Salons.plain(30, 2);
        CHECK.due("when: visit 2", x.when(2, 0), AsLastTime.BAD);
        CHECK.due("when: visit -1", x.when(-1, 0), AsLastTime.BAD);
        CHECK.due("when: what 2", x.when(0, 2), AsLastTime.BAD);
        CHECK.due("when: what -1", x.when(0, -1), AsLastTime.BAD);
    }

    private static void marked() {
        AsLastTime x = Salons.ruled(Salons.plain(10, 3), "grows 0;evens 99;minds 1;");
        Salons.places(x, 2, 35, 36, 37, 38);
        x.set(9, 1, 2);
        x.set(3, 0, 5);
        // 10 is 25 to 28 off, 0 is 35 to 38; 35 is 0 to 3 off, thrice
        CHECK.due("marked", x.marked(), 3 * 6 - (106 + 146 + 146));
        CHECK.due("the mark stays", x.told(0, 3), 5);
        CHECK.due("words stay", x.told(1, 9), 2);
        CHECK.due("words stay", x.told(0, 9), 0);
        AsLastTime y = Salons.plain(39, 1);
        Salons.places(y, 2, 20, 39, 39, 39);
        CHECK.due("worse by a mark", y.marked(), 3 * 19 - 19);
        AsLastTime z = new AsLastTime();
        CHECK.due("without visits", z.marked(), 0);
    }

    private static void again() {
        AsLastTime x = new AsLastTime();
        int[] wishes = {30, 43, 39, 42};
        for (int h = 0; h < 4; h++) {
            x.hand(0, 0, wishes[h]);
            x.visit(h, 100);
        }
        CHECK.due("again: 30 43 39 42", x.again(3), 1);
        CHECK.due("again: 30 43 39 42", x.again(2), 2);
        CHECK.due("again: the last is too far", x.again(1), AsLastTime.NONE);
        CHECK.due("again: one ahead is near, but not the last", x.again(0), AsLastTime.NONE);
        CHECK.due("again: 10", x.again(10), 0);
        CHECK.due("again: 9", x.again(9), 1);
        CHECK.due("again: 199", x.again(199), 0);
        x.set(2, 3, 45);
        CHECK.due("again: every place", x.again(5), 3);
        CHECK.due("again: every place", x.again(6), 1);
        x.set(2, 3, 40);
        for (int p = 0; p < 4; p++) {
            x.set(2, p, 60);
            CHECK.due("again: place " + p + " alone", x.again(17), AsLastTime.NONE);
            CHECK.due("again: place " + p + " alone", x.again(18), 3);
            x.set(2, p, 40);
        }
        CHECK.due("again: 200", x.again(200), AsLastTime.BAD);
        CHECK.due("again: -1", x.again(-1), AsLastTime.BAD);
        AsLastTime y = new AsLastTime();
        CHECK.due("again: no visits", y.again(199), AsLastTime.NONE);
        CHECK.due("again: BAD is ahead of NONE", y.again(200), AsLastTime.BAD);
    }
}
