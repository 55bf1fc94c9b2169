/** Promises 9 to 13: once, go, course, bad, drift; the kinds of hands, words, evening. */
public final class VisitsTest {
    private static final Check CHECK = new Check("VisitsTest");
    private static final int PLAIN = 0, SHORT = 1, TIMID = 2, CROOKED = 3, HALVING = 4, EXACT = 5;

    public static void main(String[] args) {
        means();
        leaves();
        words();
        growing();
        evening();
        offBehind();
        onceRefuses();
        going();
        courses();
        badness();
        drifts();
        withoutVisits();
        CHECK.end();
    }

    private static void means() {
        CHECK.due("share 10 remembers", Salons.cut(PLAIN, 10, 30, 0, 100, 50, 0), 50);
        CHECK.due("share 0 wishes", Salons.cut(PLAIN, 0, 30, 0, 100, 50, 0), 30);
        CHECK.due("share 3: 360 by 10", Salons.cut(PLAIN, 3, 30, 0, 100, 50, 0), 36);
        CHECK.due("share 7: 367 by 10, cut", Salons.cut(PLAIN, 7, 39, 0, 100, 36, 0), 36);
        CHECK.due("share 9: 199 and 0", Salons.cut(PLAIN, 9, 0, 0, 199, 199, 0), 179);
        CHECK.due("a number is nothing to a HAND", Salons.cut(PLAIN, 900, 30, 0, 100, 50, 0), 30);
        CHECK.due("a SHORT", Salons.cut(SHORT, 400, 30, 1, 100, 50, 0), 26);
        CHECK.due("a SHORT that remembers", Salons.cut(SHORT, 410, 30, 0, 100, 50, 0), 46);
        CHECK.due("a SHORT at 0 at least", Salons.cut(SHORT, 900, 5, 0, 100, 50, 0), 0);
        CHECK.due("a CROOKED, even", Salons.cut(CROOKED, 400, 30, 0, 100, 50, 0), 26);
        CHECK.due("a CROOKED, odd", Salons.cut(CROOKED, 400, 30, 1, 100, 50, 0), 23);
        CHECK.due("a CROOKED, even", Salons.cut(CROOKED, 400, 30, 2, 100, 50, 0), 26);
        CHECK.due("a CROOKED, odd", Salons.cut(CROOKED, 400, 30, 3, 100, 50, 0), 23);
        CHECK.due("an EXACT remembers", Salons.cut(EXACT, 910, 30, 0, 100, 50, 0), 50);
        CHECK.due("a number is nothing to an EXACT", Salons.cut(EXACT, 900, 30, 1, 100, 50, 0), 30);
        CHECK.due("a number is nothing to a TIMID", Salons.cut(TIMID, 900, 30, 1, 100, 50, 0), 65);
        CHECK.due("a number is nothing to a HALVING", Salons.cut(HALVING, 900, 30, 1, 100, 50, 0), 82);
    }

    private static void leaves() {
        CHECK.due("none makes it longer", Salons.cut(PLAIN, 0, 60, 0, 50, 50, 0), 50);
        CHECK.due("as long as it is", Salons.cut(PLAIN, 0, 50, 0, 50, 50, 0), 50);
        CHECK.due("a TIMID: 85 by 2", Salons.cut(TIMID, 0, 30, 0, 55, 50, 0), 42);
        CHECK.due("a TIMID makes nothing longer", Salons.cut(TIMID, 0, 60, 0, 55, 50, 0), 55);
        CHECK.due("a TIMID of 0 and 1", Salons.cut(TIMID, 0, 0, 0, 1, 50, 0), 0);
        CHECK.due("a HALVING: 55 and 42, by 2", Salons.cut(HALVING, 0, 30, 0, 55, 50, 0), 48);
        CHECK.due("a HALVING: 3 and 1, by 2", Salons.cut(HALVING, 0, 0, 0, 3, 50, 0), 2);
        CHECK.due("an EXACT of 34", Salons.cut(EXACT, 0, 34, 0, 55, 50, 0), 30);
        CHECK.due("an EXACT of 35", Salons.cut(EXACT, 0, 35, 0, 55, 50, 0), 35);
        CHECK.due("an EXACT of 4", Salons.cut(EXACT, 0, 4, 0, 55, 50, 0), 0);
        CHECK.due("an EXACT, ahead of the lesser", Salons.cut(EXACT, 0, 57, 0, 54, 50, 0), 54);
    }

    private static void words() {
        CHECK.due("not too short: 85 by 2", Salons.cut(PLAIN, 0, 30, 0, 55, 50, 1), 42);
        CHECK.due("not too short, a SHORT: 1 and -4, by 2", Salons.cut(SHORT, 900, 5, 0, 1, 50, 1), 0);
        CHECK.due("not too short, then TIMID: 55 and 42", Salons.cut(TIMID, 0, 30, 0, 55, 50, 1), 48);
        CHECK.due("not too short, then HALVING: 55 and 48", Salons.cut(HALVING, 0, 30, 0, 55, 50, 1), 51);
        CHECK.due("not too short, then EXACT", Salons.cut(EXACT, 0, 30, 0, 55, 50, 1), 40);
        CHECK.due("shorter", Salons.cut(PLAIN, 0, 30, 0, 55, 50, 2), 20);
        CHECK.due("shorter, 0 at least", Salons.cut(PLAIN, 0, 9, 0, 55, 50, 2), 0);
        CHECK.due("shorter, then TIMID: 55 and -1", Salons.cut(TIMID, 0, 9, 0, 55, 50, 2), 27);
        CHECK.due("shorter, then TIMID: 3 and -10, cut", Salons.cut(TIMID, 0, 0, 0, 3, 50, 2), 0);
        CHECK.due("shorter, then HALVING: 4 and -9 by 2 is -2, 2 by 2",
                Salons.cut(HALVING, 0, 1, 0, 4, 50, 2), 1);
        CHECK.due("shorter, then EXACT of 24", Salons.cut(EXACT, 0, 34, 0, 55, 50, 2), 20);
        CHECK.due("as marked, without a mark", Salons.cut(PLAIN, 0, 30, 0, 55, 50, 3), 30);
        CHECK.due("as marked, a CROOKED", marked(CROOKED, 402, 25, 1), 25);
        CHECK.due("as marked, mark 0", marked(PLAIN, 10, 0, 0), 0);
        CHECK.due("as marked, longer than it is", marked(PLAIN, 10, 199, 0), 55);
        CHECK.due("as marked, a TIMID", marked(TIMID, 10, 20, 0), 37);
        CHECK.due("as marked, an EXACT", marked(EXACT, 10, 24, 0), 20);
        CHECK.due("a mark without that word", cutMarkedBy(0), 30);
        CHECK.due("a mark without that word", cutMarkedBy(2), 20);
    }

    private static int marked(int kind, int what, int mark, int p) {
        AsLastTime x = Salons.ruled(new AsLastTime(), Salons.LOOSE);
        x.hand(kind, what, 30);
        x.visit(0, 3);
        x.set(3, 0, mark);
        x.set(0, p, 55);
        return x.once(0, p);
    }

    private static int cutMarkedBy(int word) {
        AsLastTime x = Salons.ruled(Salons.plain(30, 1), Salons.LOOSE);
        x.set(9, 0, word);
        x.set(3, 0, 25);
        x.set(0, 0, 55);
        return x.once(0, 0);
    }

    private static void growing() {
        AsLastTime x = Salons.plain(199, 1);
        x.set(8, 0, 20);
        x.set(0, 2, 199);
        x.set(0, 3, 160);
        CHECK.due("40 and 20 weeks", x.once(0, 0), 80);
        CHECK.due("199 at most", x.once(0, 2), 199);
        CHECK.due("160 and 40 is 199", x.once(0, 3), 199);
        Salons.ruled(x, "grows length*(length<100)+place;evens 99;minds 1;");
        x.set(0, 0, 33);
        CHECK.due("grows by what it was ahead", x.once(0, 0), 66);
        CHECK.due("grows of each place", x.once(0, 1), 81);
        AsLastTime y = Salons.ruled(Salons.plain(20, 1), "grows last;evens 99;minds 1;");
        y.set(1, 0, 60);
        y.set(6, 0, 199);
        CHECK.due("grows by what LAST was", y.once(0, 0), 100);
        AsLastTime z = Salons.plain(39, 1);
        z.set(5, 0, 5);
        z.set(8, 0, 3);
        CHECK.due("cut from what it has grown to", z.once(0, 0), 39);
        z.set(9, 0, 1);
        CHECK.due("not too short of what it has grown to: 46 and 39", z.once(0, 0), 42);
    }

    private static AsLastTime sides(String evens, int a, int b, int c, int d) {
        AsLastTime x = Salons.ruled(Salons.plain(199, 1), "grows 0;evens " + evens + ";minds 1;");
        return Salons.places(x, 0, a, b, c, d);
    }

    private static void evening() {
        sidesEnd("as uneven as may be", sides("3", 40, 43, 53, 50), 40, 43, 53, 50, 0);
        sidesEnd("one more", sides("3", 40, 44, 54, 50), 40, 39, 49, 50, 2);
        sidesEnd("one pair of two", sides("3", 40, 40, 199, 50), 40, 40, 49, 50, 1);
        sidesEnd("the other pair", sides("3", 0, 9, 50, 50), 0, 0, 50, 50, 1);
        sidesEnd("0 at least", sides("0", 5, 0, 0, 1), 0, 0, 0, 0, 2);
        sidesEnd("30 times at most", sides("0", 50, 51, 60, 60), 20, 21, 60, 60, 30);
        sidesEnd("30 times for each two", sides("0", 51, 50, 61, 60), 21, 20, 31, 30, 60);
        sidesEnd("till both are 0", sides("0", 4, 5, 2, 2), 0, 0, 2, 2, 5);
        sidesEnd("told anew each time", sides("40-length", 42, 40, 60, 60), 39, 40, 60, 60, 1);
        sidesEnd("told anew each time", sides("45-length", 45, 41, 42, 50), 40, 41, 42, 41, 2);
        sidesEnd("of the lesser place", sides("place*4", 40, 42, 40, 48), 10, 11, 40, 48, 30);
        sidesEnd("of the lesser place, not the lesser length", sides("length-30", 50, 40, 40, 51),
                50, 40, 40, 39, 1);
        AsLastTime x = sides("last", 40, 50, 40, 60);
        Salons.places(x, 1, 9, 99, 20, 0);
        sidesEnd("by what LAST was", x, 40, 39, 40, 60, 1);
        AsLastTime y = sides("weeks", 40, 43, 40, 40);
        y.set(8, 0, 3);
        sidesEnd("by weeks", y, 40, 43, 40, 40, 0);
        y.set(8, 0, 2);
        sidesEnd("by weeks", y, 40, 39, 40, 40, 1);
        AsLastTime z = sides("hand*3", 40, 43, 40, 40);
        z.hand(0, 0, 199);
        z.set(7, 0, 1);
        sidesEnd("by hand", z, 40, 43, 40, 40, 0);
    }

    private static void sidesEnd(String what, AsLastTime x, int a, int b, int c, int d, int cuts) {
        int[] due = {a, b, c, d, cuts};
        for (int i = 0; i < 5; i++) {
            CHECK.due(what + ": once(0, " + i + ")", x.once(0, i), due[i]);
        }
    }

    private static void offBehind() {
        AsLastTime x = Salons.ruled(Salons.plain(199, 1), "grows 0;evens 99;minds place+1;");
        Salons.places(x, 0, 10, 20, 30, 40);
        Salons.places(x, 2, 11, 18, 30, 50);
        CHECK.due("off: 1, 2 twice, 0, 10 four times", x.once(0, 5), 1 + 4 + 40);
        AsLastTime y = Salons.ruled(Salons.plain(20, 1), "grows 0;evens 99;minds last=length;");
        Salons.places(y, 2, 21, 21, 20, 20);
        CHECK.due("LAST is LENGTH then", y.once(0, 5), 2);
        CHECK.due("but not as it is now", y.set(1, 0, 9), 40);
    }

    private static void onceRefuses() {
        AsLastTime x = Salons.plain(30, 2);
        CHECK.due("once: visit 2", x.once(2, 0), AsLastTime.BAD);
        CHECK.due("once: visit -1", x.once(-1, 0), AsLastTime.BAD);
        CHECK.due("once: what 6", x.once(0, 6), AsLastTime.BAD);
        CHECK.due("once: what -1", x.once(0, -1), AsLastTime.BAD);
        x.set(8, 1, 5);
        for (int i = 0; i < 3; i++) {
            CHECK.due("once: nothing changes", x.once(0, 0), 30);
            CHECK.due("once: each by itself", x.once(1, 5), 40);
        }
        CHECK.due("once: nothing changes", x.told(0, 0), 40);
        CHECK.due("once: nothing changes", x.told(0, 1), 40);
    }

    private static void going() {
        AsLastTime x = new AsLastTime();
        x.hand(3, 210, 50);
        x.visit(0, 30);
        x.visit(0, 2);
        CHECK.due("go: visit 2", x.go(2), AsLastTime.BAD);
        CHECK.due("go: visit -1", x.go(-1), AsLastTime.BAD);
        CHECK.due("go: nothing changes", x.count(5), 160);
        // 46 is cut to 38 and 35, which is evened to 34 and 35
        CHECK.due("go(0)", x.go(0), 22);
        int[] due = {34, 35, 34, 35};
        for (int p = 0; p < 4; p++) {
            CHECK.due("go: length", x.told(p, 0), due[p]);
            CHECK.due("go: last", x.told(p, 1), due[p]);
            CHECK.due("go: want", x.told(p, 2), 40);
        }
        // 34 less 2 less 10; 35 less 5 less 10 is 20, so that 22 is evened to 19
        CHECK.due("go(1)", x.go(1), 2 * (21 + 20));
        CHECK.due("go: length", x.told(2, 0), 19);
        CHECK.due("go: length", x.told(3, 0), 20);
        CHECK.due("go: visits stay", x.count(1), 2);
    }

    /** A HAND of share 5 and wish 20, visits of 0, 10 and 20 weeks. */
    private static AsLastTime threeVisits() {
        AsLastTime x = new AsLastTime();
        x.hand(0, 5, 20);
        x.visit(0, 0);
        x.visit(0, 101);
        x.visit(0, 200);
        return x;
    }

    private static void courses() {
        AsLastTime x = threeVisits();
        // 40 to 30; 30 and 20 is 50, 25 of 30 and 20, 37; 37 and 40 is 77, cut to 28
        int[] due = {30, 37, 28};
        for (int v = 0; v < 3; v++) {
            for (int p = 0; p < 4; p++) {
                CHECK.due("course(" + v + ", " + p + ")", x.course(v, p), due[v]);
            }
        }
        CHECK.due("course: visit 3", x.course(3, 0), AsLastTime.BAD);
        CHECK.due("course: visit -1", x.course(-1, 0), AsLastTime.BAD);
        CHECK.due("course: place 4", x.course(0, 4), AsLastTime.BAD);
        CHECK.due("course: place -1", x.course(0, -1), AsLastTime.BAD);
        CHECK.due("course: in thought", x.count(5), 160);
        x.set(0, 0, 31);
        x.set(1, 1, 42);
        CHECK.due("course: from LENGTHS as they are", x.course(0, 0), 30);
        CHECK.due("course: from LAST as it is", x.course(0, 1), 31);
    }

    private static void badness() {
        AsLastTime x = threeVisits();
        CHECK.due("badness", x.bad(0), 4 * (10 + 3 + 12));
        CHECK.due("cuts", x.bad(1), 0);
        CHECK.due("off in the end", x.bad(2), 48);
        CHECK.due("most off", x.bad(3), 2);
        x.set(2, 0, 37);
        x.set(2, 1, 37);
        x.set(2, 2, 30);
        x.set(2, 3, 30);
        // 7 7 0 0, 0 0 7 7, 9 9 2 2
        CHECK.due("badness", x.bad(0), 14 + 14 + 22);
        x.set(8, 2, 0);
        // 37 is cut to 28, too
        CHECK.due("weeks do not matter to this one", x.bad(2), 22);
        x.set(6, 0, 0);
        CHECK.due("bad: what 4", x.bad(4), AsLastTime.BAD);
        CHECK.due("bad: what -1", x.bad(-1), AsLastTime.BAD);
        AsLastTime y = Salons.plain(30, 3);
        CHECK.due("most off: the first of like ones", y.bad(3), 0);
        y.set(0, 0, 42);
        y.set(0, 1, 20);
        CHECK.due("cuts together", y.bad(1), 1);
        Salons.ruled(y, "grows 3;evens 0;minds 1;");
        Salons.places(y, 0, 7, 8, 9, 9);
        // 10 11 is 0 0, evened till both are 0; then 3 3, 6 6
        CHECK.due("cuts together", y.bad(1), 11);
        Salons.places(y, 0, 7, 8, 9, 8);
        CHECK.due("cuts together", y.bad(1), 23);
        Salons.ruled(y, "grows 0;evens 99;minds 0;");
        CHECK.due("no one is most off, but the first", y.bad(3), 0);
    }

    private static void drifts() {
        AsLastTime x = threeVisits();
        Salons.places(x, 2, 28, 29, 0, 199);
        CHECK.due("drift(0)", x.drift(0), 0);
        CHECK.due("drift(1)", x.drift(1), -1);
        CHECK.due("drift(2)", x.drift(2), 28);
        CHECK.due("drift(3)", x.drift(3), 28 - 199);
        CHECK.due("drift(4)", x.drift(4), -1000);
        CHECK.due("drift(-1)", x.drift(-1), -1000);
    }

    private static void withoutVisits() {
        AsLastTime x = Salons.ruled(Salons.plain(30, 0), "grows 1;evens 1;minds 1+(last=9);");
        Salons.places(x, 0, 41, 50, 40, 40);
        Salons.places(x, 2, 40, 40, 40, 45);
        x.set(1, 0, 9);
        CHECK.due("without visits: badness", x.bad(0), 0);
        CHECK.due("without visits: cuts", x.bad(1), 0);
        CHECK.due("without visits: off as it is now", x.bad(2), 2 + 10 + 5);
        CHECK.due("without visits: none is most off", x.bad(3), AsLastTime.NONE);
        CHECK.due("without visits: drift", x.drift(1), 10);
        CHECK.due("without visits: drift", x.drift(3), -5);
        CHECK.due("without visits: course", x.course(0, 0), AsLastTime.BAD);
    }
}
