/** Promises 1 to 5: a new object, set, hand, visit, told. */
public final class PlacesHandsVisitsTest {
    private static final Check CHECK = new Check("PlacesHandsVisitsTest");

    public static void main(String[] args) {
        newObject();
        setAndTold();
        setRefuses();
        hands();
        visits();
        toldRefuses();
        CHECK.end();
    }

    private static void newObject() {
        AsLastTime x = new AsLastTime();
        CHECK.due("hands at first", x.count(0), 0);
        CHECK.due("visits at first", x.count(1), 0);
        for (int p = 0; p < 4; p++) {
            for (int what = 0; what < 3; what++) {
                CHECK.due("told " + what + " of " + p + " at first", x.told(p, what), 40);
            }
        }
        CHECK.due("mark at first", x.told(0, 3), AsLastTime.NONE);
        for (int s = 0; s < 4; s++) {
            CHECK.due("sheet at first", x.cell(s, 0, 0), -11);
        }
        CHECK.due("image at first", x.back(), AsLastTime.STATE);
        CHECK.due("another one is by itself", new AsLastTime().set(0, 0, 7), 40);
        CHECK.due("another one is by itself", x.told(0, 0), 40);
    }

    /** What set() takes: most and least of each, and that it answers what was. */
    private static void setAndTold() {
        int[] least = {0, 0, 0, -1, 0, 0, 0, 0, 0, 0};
        int[] most = {199, 199, 199, 199, 9, 10, 199, 1, 20, 3};
        int[] sizes = {4, 4, 4, 1, 2, 2, 2, 3, 3, 3};
        for (int what = 0; what <= 9; what++) {
            for (int of = 0; of < sizes[what]; of++) {
                AsLastTime x = twoHandsThreeVisits();
                int was = x.told(of, what);
                String call = "set(" + what + ", " + of + ")";
                CHECK.due(call + " most", x.set(what, of, most[what]), was);
                CHECK.due(call + " told", x.told(of, what), most[what]);
                CHECK.due(call + " least", x.set(what, of, least[what]), most[what]);
                CHECK.due(call + " told", x.told(of, what), least[what]);
                CHECK.due(call + " above", x.set(what, of, most[what] + 1), -100);
                CHECK.due(call + " below", x.set(what, of, least[what] - 1), -100);
                CHECK.due(call + " stays", x.told(of, what), least[what]);
                othersStay(x, what, of);
            }
        }
        AsLastTime x = new AsLastTime();
        CHECK.due("mark: of does not matter", x.set(3, -77, 12), -1);
        CHECK.due("mark: of does not matter", x.told(1000, 3), 12);
        CHECK.due("mark: none again", x.set(3, 4, AsLastTime.NONE), 12);
    }

    private static AsLastTime twoHandsThreeVisits() {
        AsLastTime x = new AsLastTime();
        x.hand(2, 304, 60);
        x.hand(5, 507, 61);
        x.visit(0, 72);
        x.visit(1, 101);
        x.visit(0, 33);
        return x;
    }

    private static void othersStay(AsLastTime x, int set, int of) {
        AsLastTime y = twoHandsThreeVisits();
        int[] sizes = {4, 4, 4, 1, 2, 2, 2, 3, 3, 3, 2};
        for (int what = 0; what <= 10; what++) {
            for (int i = 0; i < sizes[what]; i++) {
                if (what != set || i != of) {
                    CHECK.due("after set(" + set + "): told(" + i + ", " + what + ")",
                            x.told(i, what), y.told(i, what));
                }
            }
        }
    }

    private static void setRefuses() {
        AsLastTime x = twoHandsThreeVisits();
        for (int what : new int[] {0, 1, 2}) {
            CHECK.due("set: no such place", x.set(what, 4, 0), -100);
            CHECK.due("set: no such place", x.set(what, -1, 0), -100);
        }
        for (int what : new int[] {4, 5, 6}) {
            CHECK.due("set: no such hand", x.set(what, 2, 0), -100);
            CHECK.due("set: no such hand", x.set(what, -1, 0), -100);
        }
        for (int what : new int[] {7, 8, 9}) {
            CHECK.due("set: no such visit", x.set(what, 3, 0), -100);
            CHECK.due("set: no such visit", x.set(what, -1, 0), -100);
        }
        CHECK.due("set: kind stays", x.set(10, 0, 0), -100);
        CHECK.due("set: what", x.set(11, 0, 0), -100);
        CHECK.due("set: what", x.set(-1, 0, 0), -100);
        CHECK.due("set: what", x.set(Integer.MIN_VALUE, Integer.MAX_VALUE, 0), -100);
        CHECK.due("set: value", x.set(0, 0, Integer.MIN_VALUE), -100);
        CHECK.due("set: mark -2", x.set(3, 0, -2), -100);
    }

    private static void hands() {
        AsLastTime x = new AsLastTime();
        CHECK.due("hand of kind 6", x.hand(6, 0, 0), AsLastTime.BAD);
        CHECK.due("hand of kind -1", x.hand(-1, 0, 0), AsLastTime.BAD);
        CHECK.due("share 11", x.hand(0, 11, 0), AsLastTime.BAD);
        CHECK.due("share 99", x.hand(0, 99, 0), AsLastTime.BAD);
        CHECK.due("number 10", x.hand(0, 1000, 0), AsLastTime.BAD);
        CHECK.due("what -1", x.hand(0, -1, 0), AsLastTime.BAD);
        CHECK.due("what -100", x.hand(0, -100, 0), AsLastTime.BAD);
        CHECK.due("wish 200", x.hand(0, 0, 200), AsLastTime.BAD);
        CHECK.due("wish -1", x.hand(0, 0, -1), AsLastTime.BAD);
        CHECK.due("none came", x.count(0), 0);
        int[] whats = {0, 910, 10, 900, 507};
        for (int h = 0; h < 5; h++) {
            CHECK.due("hand " + h, x.hand(h + 1, whats[h], 199 - h), h);
        }
        CHECK.due("hands are full", x.hand(0, 0, 0), AsLastTime.FULL);
        CHECK.due("BAD is ahead of FULL", x.hand(0, 0, 200), AsLastTime.BAD);
        CHECK.due("five hands", x.count(0), 5);
        for (int h = 0; h < 5; h++) {
            CHECK.due("kind of " + h, x.told(h, 10), h + 1);
            CHECK.due("number of " + h, x.told(h, 4), whats[h] / 100);
            CHECK.due("share of " + h, x.told(h, 5), whats[h] % 100);
            CHECK.due("wish of " + h, x.told(h, 6), 199 - h);
        }
    }

    private static void visits() {
        AsLastTime x = new AsLastTime();
        CHECK.due("a visit without hands", x.visit(0, 0), AsLastTime.BAD);
        x.hand(0, 0, 0);
        x.hand(1, 0, 0);
        CHECK.due("hand 2", x.visit(2, 0), AsLastTime.BAD);
        CHECK.due("hand -1", x.visit(-1, 0), AsLastTime.BAD);
        CHECK.due("word 4", x.visit(0, 4), AsLastTime.BAD);
        CHECK.due("word 9", x.visit(0, 19), AsLastTime.BAD);
        CHECK.due("weeks 21", x.visit(0, 210), AsLastTime.BAD);
        CHECK.due("what -1", x.visit(0, -1), AsLastTime.BAD);
        CHECK.due("what -10", x.visit(0, -10), AsLastTime.BAD);
        CHECK.due("none came", x.count(1), 0);
        int[] whats = {0, 203, 3, 200, 101, 12, 72, 53};
        for (int v = 0; v < 8; v++) {
            CHECK.due("visit " + v, x.visit(v % 2, whats[v]), v);
        }
        CHECK.due("visits are full", x.visit(0, 0), AsLastTime.FULL);
        CHECK.due("BAD is ahead of FULL", x.visit(0, 4), AsLastTime.BAD);
        CHECK.due("eight visits", x.count(1), 8);
        for (int v = 0; v < 8; v++) {
            CHECK.due("hand of " + v, x.told(v, 7), v % 2);
            CHECK.due("weeks of " + v, x.told(v, 8), whats[v] / 10);
            CHECK.due("word of " + v, x.told(v, 9), whats[v] % 10);
        }
    }

    private static void toldRefuses() {
        AsLastTime x = twoHandsThreeVisits();
        int[] sizes = {4, 4, 4, 0, 2, 2, 2, 3, 3, 3, 2};
        for (int what = 0; what <= 10; what++) {
            if (what != 3) {
                CHECK.due("told: none such", x.told(sizes[what], what), -100);
                CHECK.due("told: none such", x.told(-1, what), -100);
            }
        }
        CHECK.due("told: what 11", x.told(0, 11), -100);
        CHECK.due("told: what -1", x.told(0, -1), -100);
        CHECK.due("told: kind", x.told(1, 10), 5);
    }
}
