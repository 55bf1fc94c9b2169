/** The bounds of promises 1 to 5: what PLACES, HANDS and VISITS may be, a test for each sentence. */
public final class EdgesOfPlacesTest {
    private static final Check CHECK = new Check("EdgesOfPlacesTest");
    private static final int BAD = AsLastTime.BAD, FULL = AsLastTime.FULL, NONE = AsLastTime.NONE;

    public static void main(String[] args) {
        newObject();
        places();
        lengths();
        mark();
        fiveHands();
        kinds();
        partsOfHands();
        eightVisits();
        partsOfVisits();
        handsOfVisits();
        kindIsToldAlone();
        ofDoesNotMatter();
        used512Times();
        CHECK.end();
    }

    /** "No HANDS, no VISITS"; 40 at first; NONE, as at first; THE RULE; missing, as all are at first. */
    private static void newObject() {
        AsLastTime x = new AsLastTime();
        int[] counts = {0, 0, 1, 0, 0, 160};
        for (int what = 0; what < counts.length; what++) {
            CHECK.due("at first: count(" + what + ")", x.count(what), counts[what]);
        }
        for (int place = 0; place < 4; place++) {
            for (int what = 0; what < 3; what++) {
                CHECK.due("at first: told(" + place + ", " + what + ")", x.told(place, what), 40);
            }
        }
        CHECK.due("at first: no mark", x.told(0, 3), NONE);
        CHECK.due("at first: hand 0 has no kind", x.told(0, 10), -100);
        CHECK.due("at first: visit 0 has no weeks", x.told(0, 8), -100);
        CHECK.due("at first: no visit goes", x.go(0), BAD);
        CHECK.due("at first: the first hand is 0", x.hand(0, 0, 0), 0);
        CHECK.due("at first: the first visit is 0", x.visit(0, 0), 0);
    }

    /** "PLACES 0 .. 3" */
    private static void places() {
        for (int what = 0; what < 3; what++) {
            AsLastTime x = new AsLastTime();
            for (int place = 0; place < 4; place++) {
                CHECK.due("place " + place, x.set(what, place, 50 + place), 40);
            }
            for (int place = 0; place < 4; place++) {
                CHECK.due("place " + place, x.told(place, what), 50 + place);
            }
            for (int place : new int[] {-1, 4}) {
                CHECK.due("no place " + place, x.set(what, place, 50), -100);
                CHECK.due("no place " + place, x.told(place, what), -100);
            }
        }
    }

    /** Every number from least to most is taken and told, and none beside them. */
    private static void range(String name, AsLastTime x, int what, int of, int least, int most) {
        int was = x.told(of, what);
        for (int v = least; v <= most; v++) {
            CHECK.due(name + " " + v + " is taken", x.set(what, of, v), was);
            was = v;
        }
        for (int v : new int[] {least - 1, most + 1, Integer.MIN_VALUE, Integer.MAX_VALUE}) {
            CHECK.due(name + " " + v + " is not", x.set(what, of, v), -100);
            CHECK.due(name + " stays", x.told(of, what), most);
        }
        CHECK.due(name + " " + least + " is taken again", x.set(what, of, least), most);
        CHECK.due(name + " is told", x.told(of, what), least);
    }

    /** "LENGTH (0 .. 199)", "LAST (0 .. 199)", "WANT (0 .. 199)" */
    private static void lengths() {
        for (int place = 0; place < 4; place++) {
            range("LENGTH", new AsLastTime(), 0, place, 0, 199);
            range("LAST", new AsLastTime(), 1, place, 0, 199);
            range("WANT", new AsLastTime(), 2, place, 0, 199);
        }
    }

    /** "MARK: a length (0 .. 199), or NONE" */
    private static void mark() {
        range("MARK", new AsLastTime(), 3, 0, NONE, 199);
        AsLastTime x = Salons.loose(30, 1);
        x.set(9, 0, 3);
        CHECK.due("no mark is none", x.once(0, 0), 30);
        x.set(3, 0, 0);
        CHECK.due("a mark of 0 is one", x.once(0, 0), 0);
        x.set(3, 0, NONE);
        CHECK.due("there is none again", x.once(0, 0), 30);
    }

    /** "HANDS (5 at most, numbered from 0)" */
    private static void fiveHands() {
        AsLastTime x = new AsLastTime();
        for (int h = 0; h < 5; h++) {
            CHECK.due("no hand " + h + " yet", x.told(h, 4), -100);
            CHECK.due("hand " + h, x.hand(0, 0, h), h);
            CHECK.due("so many hands", x.count(0), h + 1);
            CHECK.due("hand " + h, x.told(h, 6), h);
        }
        CHECK.due("the sixth hand", x.hand(0, 0, 5), FULL);
        CHECK.due("the sixth hand", x.told(5, 6), -100);
        CHECK.due("five hands", x.count(0), 5);
        CHECK.due("the fifth hand stays", x.told(4, 6), 4);
        AsLastTime y = new AsLastTime();
        y.image();
        for (int h = 0; h < 5; h++) {
            y.hand(0, 0, h);
        }
        y.back();
        CHECK.due("when they are gone there is room", y.hand(0, 0, 9), 0);
        CHECK.due("one hand", y.count(0), 1);
    }

    /** "a KIND: 0 .. 5" */
    private static void kinds() {
        for (int kind = 0; kind <= 5; kind++) {
            AsLastTime x = new AsLastTime();
            CHECK.due("kind " + kind, x.hand(kind, 0, 0), 0);
            CHECK.due("kind " + kind, x.told(0, 10), kind);
        }
        for (int kind : new int[] {-1, 6}) {
            AsLastTime x = new AsLastTime();
            CHECK.due("kind " + kind, x.hand(kind, 0, 0), BAD);
            CHECK.due("none came", x.count(0), 0);
        }
    }

    /** "a NUMBER (0 .. 9), a SHARE (0 .. 10), a WISH (0 .. 199)"; "what: 100 times NUMBER, and SHARE" */
    private static void partsOfHands() {
        for (int number = 0; number <= 10; number++) {
            for (int share = 0; share <= 11; share++) {
                AsLastTime x = new AsLastTime();
                boolean fits = number <= 9 && share <= 10;
                int what = 100 * number + share;
                CHECK.due("hand(0, " + what + ")", x.hand(0, what, 7), fits ? 0 : BAD);
                CHECK.due("hand(0, " + what + "): NUMBER", x.told(0, 4), fits ? number : -100);
                CHECK.due("hand(0, " + what + "): SHARE", x.told(0, 5), fits ? share : -100);
            }
        }
        for (int what : new int[] {-1, -10, -99, -100, -101, 99, 999}) {
            CHECK.due("hand(0, " + what + ")", new AsLastTime().hand(0, what, 7), BAD);
        }
        for (int wish : new int[] {-1, 0, 199, 200}) {
            boolean fits = wish >= 0 && wish <= 199;
            AsLastTime x = new AsLastTime();
            CHECK.due("WISH " + wish, x.hand(0, 0, wish), fits ? 0 : BAD);
            CHECK.due("WISH " + wish, x.told(0, 6), fits ? wish : -100);
        }
        for (int h = 0; h < 2; h++) {
            range("NUMBER", twoHands(), 4, h, 0, 9);
            range("SHARE", twoHands(), 5, h, 0, 10);
            range("WISH", twoHands(), 6, h, 0, 199);
        }
        CHECK.due("no hand -1", twoHands().set(4, -1, 0), -100);
        CHECK.due("no hand 2", twoHands().set(6, 2, 0), -100);
    }

    private static AsLastTime twoHands() {
        AsLastTime x = new AsLastTime();
        x.hand(1, 305, 50);
        x.hand(2, 407, 60);
        x.visit(0, 42);
        x.visit(1, 53);
        return x;
    }

    /** "VISITS (8 at most, numbered from 0)" */
    private static void eightVisits() {
        AsLastTime x = Salons.plain(0, 0);
        for (int v = 0; v < 8; v++) {
            CHECK.due("no visit " + v + " yet", x.told(v, 8), -100);
            CHECK.due("visit " + v, x.visit(0, 10 * v), v);
            CHECK.due("so many visits", x.count(1), v + 1);
            CHECK.due("visit " + v, x.told(v, 8), v);
        }
        CHECK.due("the ninth visit", x.visit(0, 80), FULL);
        CHECK.due("the ninth visit", x.told(8, 8), -100);
        CHECK.due("eight visits", x.count(1), 8);
        CHECK.due("the eighth visit stays", x.told(7, 8), 7);
        AsLastTime y = Salons.plain(0, 7);
        y.image();
        y.visit(0, 11);
        CHECK.due("the ninth visit", y.visit(0, 0), FULL);
        y.back();
        CHECK.due("when one is gone there is room", y.visit(0, 22), 7);
        CHECK.due("the new one", y.told(7, 8), 2);
    }

    /** "WEEKS (0 .. 20), a WORD (0 .. 3)"; "what: 10 times WEEKS, and the WORD" */
    private static void partsOfVisits() {
        for (int weeks = 0; weeks <= 21; weeks++) {
            for (int word = 0; word <= 9; word++) {
                AsLastTime x = Salons.plain(0, 0);
                boolean fits = weeks <= 20 && word <= 3;
                int what = 10 * weeks + word;
                CHECK.due("visit(0, " + what + ")", x.visit(0, what), fits ? 0 : BAD);
                CHECK.due("visit(0, " + what + "): WEEKS", x.told(0, 8), fits ? weeks : -100);
                CHECK.due("visit(0, " + what + "): WORD", x.told(0, 9), fits ? word : -100);
            }
        }
        for (int what : new int[] {-1, -3, -9, -10, -11, -200}) {
            CHECK.due("visit(0, " + what + ")", Salons.plain(0, 0).visit(0, what), BAD);
        }
        for (int v = 0; v < 2; v++) {
            range("WEEKS", twoHands(), 8, v, 0, 20);
            range("WORD", twoHands(), 9, v, 0, 3);
        }
        CHECK.due("no visit -1", twoHands().set(8, -1, 0), -100);
        CHECK.due("no visit 2", twoHands().set(9, 2, 0), -100);
    }

    /** A HAND of a VISIT is one of those that there are. */
    private static void handsOfVisits() {
        AsLastTime x = new AsLastTime();
        for (int hands = 0; hands <= 5; hands++) {
            CHECK.due("hand -1 of " + hands, x.visit(-1, 0), BAD);
            CHECK.due("hand " + hands + " of " + hands, x.visit(hands, 0), BAD);
            if (hands > 0) {
                CHECK.due("hand " + (hands - 1) + " of " + hands, x.visit(hands - 1, 0), hands - 1);
                CHECK.due("set to hand " + hands + " of " + hands, x.set(7, 0, hands), -100);
                CHECK.due("set to hand -1", x.set(7, 0, -1), -100);
                CHECK.due("set to hand " + (hands - 1), x.set(7, 0, hands - 1), Math.max(0, hands - 2));
                CHECK.due("told", x.told(0, 7), hands - 1);
            }
            x.hand(0, 0, 0);
        }
    }

    /** set() knows what 0 .. 9, told() 0 .. 10. */
    private static void kindIsToldAlone() {
        AsLastTime x = twoHands();
        CHECK.due("told: what 10", x.told(1, 10), 2);
        CHECK.due("set: what 10", x.set(10, 1, 3), -100);
        CHECK.due("told: what 10", x.told(1, 10), 2);
        CHECK.due("told: what 11", x.told(0, 11), -100);
        CHECK.due("told: what -1", x.told(0, -1), -100);
        CHECK.due("set: what -1", x.set(-1, 0, 1), -100);
        CHECK.due("set: what 11", x.set(11, 0, 1), -100);
    }

    /** "MARK (3; NONE: none; of does not matter)" */
    private static void ofDoesNotMatter() {
        int mark = NONE;
        AsLastTime x = new AsLastTime();
        for (int of : new int[] {-1, 0, 1, 4, Integer.MIN_VALUE, Integer.MAX_VALUE}) {
            CHECK.due("set(3, " + of + ")", x.set(3, of, mark + 10), mark);
            mark += 10;
            for (int other : new int[] {0, -7, 5, Integer.MAX_VALUE, Integer.MIN_VALUE}) {
                CHECK.due("told(" + other + ", 3)", x.told(other, 3), mark);
            }
        }
    }

    /** "An object is used for at most 512 calls": the last of them is answered like the first. */
    private static void used512Times() {
        AsLastTime x = new AsLastTime();
        int was = 40;
        for (int call = 1; call <= 511; call++) {
            CHECK.due("call " + call, x.set(0, 3, call % 200), was);
            was = call % 200;
        }
        CHECK.due("call 512", x.count(5), 3 * 40 + was);
    }
}
