/** Promises 19 to 26: pictures, seen, film, drawn, chance, image, back, count. */
public final class PicturesTest {
    private static final Check CHECK = new Check("PicturesTest");

    public static void main(String[] args) {
        pictures();
        pictureRefusals();
        seenOfVisits();
        seenOfHands();
        seenTexts();
        seenRefuses();
        film();
        drawn();
        chance();
        image();
        imageAndGo();
        counts();
        CHECK.end();
    }

    /** Visits by hands with wishes 30, 35, 39, ten weeks apart. */
    private static AsLastTime wishes() {
        AsLastTime x = new AsLastTime();
        x.hand(0, 0, 30);
        x.hand(0, 0, 35);
        x.hand(0, 0, 39);
        x.visit(0, 100);
        x.visit(1, 100);
        x.visit(2, 100);
        return x;
    }

    private static void pictures() {
        AsLastTime x = wishes();
        CHECK.due("as it is", Salons.sheet(x, 0, 1, 30, 35, 39).pictures(0, 0), AsLastTime.NONE);
        CHECK.due("as it is, ints", Salons.sheet(x, 1, 2, 30, 35, 39).pictures(1, 3), AsLastTime.NONE);
        CHECK.due("as it is, bytes", Salons.sheet(x, 2, 0, 30, 35, 39).pictures(2, 3), AsLastTime.NONE);
        CHECK.due("otherwise at 0", Salons.sheet(x, 3, 1, 29, 35, 38).pictures(3, 0), 0);
        CHECK.due("otherwise at 1", Salons.sheet(x, 0, 1, 30, 0, 39).pictures(0, 0), 1);
        CHECK.due("otherwise at 2", Salons.sheet(x, 0, 1, 30, 35, 40).pictures(0, 0), 2);
        CHECK.due("fewer than there are", Salons.sheet(x, 0, 1, 30, 35).pictures(0, 0), AsLastTime.NONE);
        CHECK.due("one", Salons.sheet(x, 0, 1, 31).pictures(0, 0), 0);
        CHECK.due("none", Salons.sheet(x, 0, 1).pictures(0, 0), AsLastTime.NONE);
        CHECK.due("more", Salons.sheet(x, 0, 1, 30, 35, 39, 39).pictures(0, 0), AsLastTime.BAD);
        x.set(0, 1, 0);
        x.set(8, 0, 0);
        x.set(8, 1, 10);
        // place 0 is cut to 0 less 1, which is 0; then both are 20, 39
        CHECK.due("of a place", Salons.sheet(x, 0, 1, 0, 20, 39).pictures(0, 0), AsLastTime.NONE);
        CHECK.due("of another place", Salons.sheet(x, 0, 1, 30, 35, 39).pictures(0, 2), AsLastTime.NONE);
        CHECK.due("of another place", x.pictures(0, 1), 0);
        AsLastTime y = Salons.plain(199, 1);
        y.set(0, 0, 150);
        y.set(0, 1, 150);
        CHECK.due("150 is no byte", Salons.sheet(y, 0, 0, 150).pictures(0, 0), 0);
        CHECK.due("150 is a short", Salons.sheet(y, 0, 1, 150).pictures(0, 0), AsLastTime.NONE);
        CHECK.due("65536 and 150 as a short", Salons.sheet(y, 0, 1, 65686).pictures(0, 0), AsLastTime.NONE);
        CHECK.due("65536 and 150 as an int", Salons.sheet(y, 0, 2, 65686).pictures(0, 0), 0);
        CHECK.due("256 and 40 as a byte", Salons.sheet(y, 0, 0, 296).pictures(0, 2), AsLastTime.NONE);
        CHECK.due("256 and 40 as a short", Salons.sheet(y, 0, 1, 296).pictures(0, 2), 0);
    }

    private static void pictureRefusals() {
        AsLastTime x = wishes();
        Salons.sheet(x, 0, 0, 1, 2, 3, 4);
        CHECK.due("sheet 4", x.pictures(4, 0), AsLastTime.BAD);
        CHECK.due("sheet -1", x.pictures(-1, 0), AsLastTime.BAD);
        CHECK.due("place 4", x.pictures(0, 4), AsLastTime.BAD);
        CHECK.due("place -1", x.pictures(0, -1), AsLastTime.BAD);
        CHECK.due("place 4, ahead of nothing", x.pictures(1, 4), AsLastTime.BAD);
        CHECK.due("nothing", x.pictures(1, 0), -11);
        CHECK.due("it tells more", x.pictures(0, 0), AsLastTime.BAD);
    }

    private static void seenOfVisits() {
        AsLastTime x = wishes();
        Salons.sheet(x, 0, 1, 30, 35, 39);
        for (int v = 0; v < 3; v++) {
            CHECK.due("hands of " + v, x.seen(0, 0, 0, v), 1 << v);
            CHECK.due("words of " + v, x.seen(0, 0, 1, v), 1 + 8);
        }
        x.set(3, 0, 39);
        CHECK.due("words with a mark", x.seen(0, 0, 1, 0), 1);
        CHECK.due("words with a mark", x.seen(0, 0, 1, 2), 1 + 8);
        CHECK.due("weeks of 0", x.seen(0, 0, 2, 0), (1 << 21) - 1);
        CHECK.due("weeks of 1: 3 at least", x.seen(0, 0, 2, 1), (1 << 21) - 1 - 7);
        CHECK.due("weeks of 2: 2 at least", x.seen(0, 0, 2, 2), (1 << 21) - 1 - 3);
        x.hand(0, 0, 35);
        CHECK.due("a hand like it", x.seen(0, 0, 0, 1), 2 + 8);
        Salons.sheet(x, 1, 2, 30);
        CHECK.due("what is not told may be otherwise", x.seen(1, 0, 0, 1), 15);
        Salons.sheet(x, 1, 2, 30, 37);
        CHECK.due("by no hand", x.seen(1, 0, 0, 1), 0);
        CHECK.due("by 6 weeks less", x.seen(1, 0, 2, 1), 0);
        Salons.sheet(x, 1, 2, 30, 32);
        CHECK.due("by 1 week", x.seen(1, 0, 2, 1), 2);
        Salons.sheet(x, 1, 2, 30, 25);
        CHECK.due("by a word", x.seen(1, 0, 1, 1), 4);
        Salons.sheet(x, 1, 2, 30, 42);
        CHECK.due("by a word: 50 and 35 by 2", x.seen(1, 0, 1, 1), 2);
        CHECK.due("all stays", x.pictures(0, 0), AsLastTime.NONE);
        x.set(0, 0, 12);
        Salons.sheet(x, 2, 0, 30, 35, 39);
        CHECK.due("of another place", x.seen(2, 2, 0, 0), 1);
    }

    private static void seenOfHands() {
        AsLastTime x = new AsLastTime();
        x.hand(1, 405, 30);
        x.hand(1, 400, 20);
        x.visit(0, 0);
        x.visit(1, 20);
        Salons.sheet(x, 0, 1, 31, 16);
        CHECK.due("as it is", x.pictures(0, 0), AsLastTime.NONE);
        CHECK.due("numbers", x.seen(0, 0, 3, 0), 1 << 4);
        CHECK.due("shares", x.seen(0, 0, 4, 0), 1 << 5);
        Salons.sheet(x, 1, 1, 40);
        CHECK.due("share 10 and number 4", x.seen(1, 0, 4, 0), 0);
        Salons.sheet(x, 1, 1, 35);
        CHECK.due("number 0", x.seen(1, 0, 3, 0), 1);
        Salons.sheet(x, 1, 1, 26);
        CHECK.due("number 9", x.seen(1, 0, 3, 0), 1 << 9);
        CHECK.due("share 0", x.seen(1, 0, 4, 0), 1);
        CHECK.due("of a hand that did nothing there", x.seen(1, 0, 3, 1), 0);
        Salons.sheet(x, 1, 1, 36);
        CHECK.due("share 10", x.seen(1, 0, 4, 0), 1 << 10);
        Salons.sheet(x, 1, 1, 31);
        CHECK.due("of a hand that did nothing there", x.seen(1, 0, 3, 1), (1 << 10) - 1);
        CHECK.due("of a hand that did nothing there", x.seen(1, 0, 4, 1), (1 << 11) - 1);
        CHECK.due("all stays", x.told(0, 4), 4);
        CHECK.due("all stays", x.told(0, 5), 5);
    }

    private static void seenTexts() {
        AsLastTime x = Salons.plain(199, 2);
        x.set(8, 0, 3);
        Salons.read(x, "grows 6*(0<weeks);evens 1;minds 1;");
        Salons.read(x, "grows weeks;evens 1;minds 1;");
        Salons.ruled(x, "grows 6*(0<weeks);evens 1;minds 1;");
        Salons.sheet(x, 0, 1, 46, 46);
        CHECK.due("texts", x.seen(0, 0, 5, -5), 1 + 2 + 8);
        CHECK.due("the rule stays", x.count(4), 3);
        Salons.sheet(x, 0, 1, 43);
        CHECK.due("texts", x.seen(0, 0, 5, 99), 4);
        Salons.sheet(x, 0, 1, 44);
        CHECK.due("no text", x.seen(0, 0, 5, 0), 0);
    }

    private static void seenRefuses() {
        AsLastTime x = wishes();
        x.hand(0, 0, 0);
        Salons.sheet(x, 0, 1, 30, 35, 39);
        Salons.sheet(x, 1, 1, 30, 35, 39, 39);
        CHECK.due("sheet 4", x.seen(4, 0, 0, 0), AsLastTime.BAD);
        CHECK.due("sheet -1", x.seen(-1, 0, 0, 0), AsLastTime.BAD);
        CHECK.due("place 4", x.seen(0, 4, 0, 0), AsLastTime.BAD);
        CHECK.due("place -1", x.seen(0, -1, 0, 0), AsLastTime.BAD);
        CHECK.due("what 6", x.seen(0, 0, 6, 0), AsLastTime.BAD);
        CHECK.due("what -1", x.seen(0, 0, -1, 0), AsLastTime.BAD);
        for (int what = 0; what < 3; what++) {
            CHECK.due("visit 3", x.seen(0, 0, what, 3), AsLastTime.BAD);
            CHECK.due("visit -1", x.seen(0, 0, what, -1), AsLastTime.BAD);
        }
        for (int what = 3; what < 5; what++) {
            CHECK.due("hand 4", x.seen(0, 0, what, 4), AsLastTime.BAD);
            CHECK.due("hand -1", x.seen(0, 0, what, -1), AsLastTime.BAD);
            CHECK.due("hand 3", x.seen(0, 0, what, 3), what == 3 ? 1023 : 2047);
        }
        CHECK.due("BAD is ahead of nothing", x.seen(2, 0, 0, 3), AsLastTime.BAD);
        CHECK.due("nothing", x.seen(2, 0, 0, 2), -11);
        CHECK.due("nothing", x.seen(2, 0, 5, 9), -11);
        CHECK.due("it tells more", x.seen(1, 0, 0, 2), AsLastTime.BAD);
        CHECK.due("it tells more", x.seen(1, 0, 5, 2), AsLastTime.BAD);
    }

    private static void film() {
        AsLastTime x = wishes();
        CHECK.due("film: sheet 4", x.film(4, 0, 0), AsLastTime.BAD);
        CHECK.due("film: sheet -1", x.film(-1, 0, 0), AsLastTime.BAD);
        CHECK.due("film: place 4", x.film(0, 4, 0), AsLastTime.BAD);
        CHECK.due("film: place -1", x.film(0, -1, 0), AsLastTime.BAD);
        CHECK.due("film: n 4", x.film(0, 0, 4), AsLastTime.BAD);
        CHECK.due("film: n -1", x.film(0, 0, -1), AsLastTime.BAD);
        CHECK.due("film: still missing", x.cell(0, 0, 0), -11);
        x.set(2, 0, 31);
        Salons.places(x, 0, 20, 20, 90, 90);
        x.set(8, 0, 0);
        CHECK.due("film", x.film(0, 0, 3), 3);
        CHECK.due("film: 20 35 39", x.pictures(0, 0), AsLastTime.NONE);
        CHECK.due("film: 30 there", x.pictures(0, 2), 0);
        CHECK.due("film: of no more", x.cell(0, 3, 0), -12);
        CHECK.due("film: over it", x.film(0, 2, 2), 2);
        CHECK.due("film: 30 35", x.pictures(0, 2), AsLastTime.NONE);
        CHECK.due("film: of no more", x.cell(0, 2, 0), -12);
        Salons.sheet(x, 1, 1, 1, 2, 3);
        Salons.sheet(x, 2, 0, 1, 2, 3);
        CHECK.due("film: shorts", x.copy(0, 0, 1, 0, 2), 2);
        CHECK.due("film: shorts, not bytes", x.copy(0, 0, 2, 0, 2), -13);
        x.film(2, 0, 1);
        CHECK.due("film: shorts, where bytes were", x.copy(0, 0, 2, 0, 1), 1);
        CHECK.due("film: of none", x.film(3, 0, 0), 0);
        CHECK.due("film: of none", x.cell(3, 0, 0), -12);
    }

    /** By hands drawn as the document says, with an object that has them truly. */
    private static int badnessDrawn(int seed, int hands) {
        AsLastTime y = drawingSalon(hands);
        int z = seed;
        for (int v = 0; v < 4; v++) {
            z = z * 1103515245 + 12345;
            y.set(7, v, (z >>> 9) % hands);
        }
        return y.bad(0);
    }

    private static AsLastTime drawingSalon(int hands) {
        AsLastTime x = new AsLastTime();
        for (int h = 0; h < hands; h++) {
            x.hand(h, 102 * h, 30 + 4 * h);
        }
        for (int v = 0; v < 4; v++) {
            x.visit(v % hands, 40 + v);
        }
        return x;
    }

    private static void drawn() {
        int[] seeds = {0, 1, 2, 77, -1, -77, Integer.MAX_VALUE, Integer.MIN_VALUE, 123456789};
        for (int hands = 1; hands <= 5; hands++) {
            for (int seed : seeds) {
                AsLastTime x = drawingSalon(hands);
                int was = x.bad(0);
                CHECK.due(hands + " hands: drawn(" + seed + ")", x.drawn(seed), badnessDrawn(seed, hands));
                CHECK.due("in thought", x.bad(0), was);
            }
        }
        CHECK.due("no hands", new AsLastTime().drawn(1), AsLastTime.NONE);
        AsLastTime y = new AsLastTime();
        y.hand(0, 0, 0);
        CHECK.due("no visits", y.drawn(1), 0);
        AsLastTime five = new AsLastTime();
        for (int h = 0; h < 5; h++) {
            five.hand(0, 0, 30 + h);
        }
        five.visit(0, 0);
        // z is 12345, its number 24; then -1103502900, its number 6233328
        CHECK.due("hand 4 by seed 0", five.drawn(0), 4 * 6);
        CHECK.due("hand 3 by seed -1", five.drawn(-1), 4 * 7);
    }

    private static void chance() {
        int[] seeds = {0, 5, -3, Integer.MAX_VALUE - 4, -1000};
        for (int hands = 1; hands <= 4; hands++) {
            for (int seed : seeds) {
                for (int n = 1; n <= 20; n++) {
                    AsLastTime x = drawingSalon(hands);
                    int hits = 0;
                    for (int i = 0; i < n; i++) {
                        hits += badnessDrawn(seed + i, hands) <= x.bad(0) ? 1 : 0;
                    }
                    long above = x.chance(seed, n, 0);
                    long below = x.chance(seed, n, 1);
                    String call = hands + " hands: chance(" + seed + ", " + n + ")";
                    CHECK.due(call + " as a fraction", above * n, below * hits);
                    CHECK.holds(call + " in lowest terms", lowest(above, below));
                }
            }
        }
        AsLastTime x = drawingSalon(2);
        CHECK.due("n 0", x.chance(0, 0, 0), AsLastTime.NO);
        CHECK.due("n -1", x.chance(0, -1, 0), AsLastTime.NO);
        CHECK.due("n 21", x.chance(0, 21, 0), AsLastTime.NO);
        CHECK.due("part 2", x.chance(0, 1, 2), AsLastTime.NO);
        CHECK.due("part -1", x.chance(0, 1, -1), AsLastTime.NO);
        CHECK.due("no hands", new AsLastTime().chance(0, 1, 0), AsLastTime.NO);
        AsLastTime y = Salons.plain(40, 2);
        y.hand(0, 0, 0);
        y.hand(0, 0, 40);
        y.set(6, 1, 40);
        CHECK.due("all are as bad", y.chance(7, 20, 0), 1);
        CHECK.due("all are as bad", y.chance(7, 20, 1), 1);
        chanceOfNone();
    }

    private static boolean lowest(long above, long below) {
        if (below < 1 || above < 0) {
            return false;
        }
        for (long d = 2; d <= below; d++) {
            if (above % d == 0 && below % d == 0) {
                return false;
            }
        }
        return true;
    }

    /** Four of the five hands are far off, and drawn at one of the first visits by these seeds. */
    private static void chanceOfNone() {
        AsLastTime x = new AsLastTime();
        x.hand(0, 0, 40);
        for (int h = 1; h < 5; h++) {
            x.hand(0, 0, 0);
        }
        for (int v = 0; v < 8; v++) {
            x.visit(0, 200);
        }
        CHECK.due("none is as good", x.chance(1, 20, 0), 0);
        CHECK.due("none is as good: 0 in 1", x.chance(1, 20, 1), 1);
    }

    private static void image() {
        AsLastTime x = new AsLastTime();
        CHECK.due("back without an image", x.back(), AsLastTime.STATE);
        CHECK.due("an image of nothing", x.image(), 0);
        x.hand(2, 304, 60);
        x.visit(0, 72);
        CHECK.due("back to nothing", x.back(), 0);
        CHECK.due("hands are gone", x.count(0), 0);
        CHECK.due("visits are gone", x.count(1), 0);
        x.hand(3, 305, 61);
        x.hand(4, 306, 62);
        x.visit(1, 73);
        x.visit(0, 42);
        CHECK.due("another image", x.image(), 2);
        changeAll(x);
        CHECK.due("back", x.back(), 2);
        CHECK.due("hands that came are gone", x.count(0), 2);
        CHECK.due("visits that came are gone", x.count(1), 2);
        for (int p = 0; p < 4; p++) {
            for (int what = 0; what < 3; what++) {
                CHECK.due("back: told(" + p + ", " + what + ")", x.told(p, what), 40);
            }
        }
        int[][] due = {{3, 3}, {5, 6}, {61, 62}, {1, 0}, {7, 4}, {3, 2}, {3, 4}};
        for (int what = 4; what <= 10; what++) {
            for (int i = 0; i < 2; i++) {
                CHECK.due("back: told(" + i + ", " + what + ")", x.told(i, what), due[what - 4][i]);
            }
        }
        CHECK.due("back: mark", x.told(0, 3), AsLastTime.NONE);
        CHECK.due("back: the rule", x.count(4), 0);
        CHECK.due("texts stay", x.count(2), 2);
        CHECK.due("the tape stays", x.count(3), 1);
        CHECK.due("sheets stay", x.cell(0, 0, 1), 1);
        x.set(0, 0, 9);
        CHECK.due("back twice", x.back(), 2);
        CHECK.due("back twice", x.told(0, 0), 40);
        CHECK.due("hands come anew", x.hand(5, 0, 7), 2);
        CHECK.due("hands come anew", x.told(2, 10), 5);
    }

    private static void changeAll(AsLastTime x) {
        for (int p = 0; p < 4; p++) {
            for (int what = 0; what < 3; what++) {
                x.set(what, p, 10 * what + p);
            }
        }
        x.set(3, 0, 12);
        for (int i = 0; i < 2; i++) {
            for (int what = 4; what <= 9; what++) {
                x.set(what, i, 1 - i);
            }
        }
        x.hand(0, 0, 0);
        x.visit(2, 0);
        Salons.ruled(x, "grows 1;evens 1;minds 1;");
        x.feed(32);
        x.sheet(0, 0, 1);
    }

    private static void imageAndGo() {
        AsLastTime x = wishes();
        x.set(3, 0, 33);
        int bad = x.bad(0);
        CHECK.due("image", x.image(), 3);
        x.go(1);
        x.go(0);
        x.set(3, 0, AsLastTime.NONE);
        CHECK.due("back", x.back(), 3);
        CHECK.due("lengths are back", x.count(5), 160);
        CHECK.due("the mark is back", x.told(0, 3), 33);
        CHECK.due("badness is back", x.bad(0), bad);
        x.go(1);
        CHECK.due("a later image", x.image(), 3);
        x.go(0);
        CHECK.due("back to the later one", x.back(), 3);
        CHECK.due("back to the later one", x.told(0, 1), 35);
    }

    private static void counts() {
        AsLastTime x = wishes();
        x.feed(32);
        x.feed(32);
        CHECK.due("hands", x.count(0), 3);
        CHECK.due("visits", x.count(1), 3);
        CHECK.due("texts", x.count(2), 1);
        CHECK.due("bytes", x.count(3), 2);
        CHECK.due("the rule", x.count(4), 0);
        CHECK.due("lengths", x.count(5), 160);
        Salons.places(x, 0, 1, 20, 30, 199);
        CHECK.due("lengths", x.count(5), 250);
        Salons.ruled(x, "grows 1;evens 1;minds 1;");
        CHECK.due("texts", x.count(2), 2);
        CHECK.due("the rule", x.count(4), 1);
        CHECK.due("count(6)", x.count(6), AsLastTime.BAD);
        CHECK.due("count(-1)", x.count(-1), AsLastTime.BAD);
    }
}
