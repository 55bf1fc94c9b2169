import java.util.HashMap;
import java.util.List;
import java.util.Map;
import java.util.function.Supplier;

/**
 * Every refusal of the document: what is answered at the first number that is not taken, at both
 * ends; that nothing changes by it; and which one is answered where two could be.
 */
public final class RefusalsTest {
    private static final Check CHECK = new Check("RefusalsTest");
    private static final int BAD = AsLastTime.BAD, NONE = AsLastTime.NONE;
    private static final int STATE = AsLastTime.STATE, FULL = AsLastTime.FULL;
    private static final long NO = AsLastTime.NO;
    private static final int LEAST = Integer.MIN_VALUE, MOST = Integer.MAX_VALUE;
    private static final Map<Supplier<AsLastTime>, List<String>> UNTOUCHED = new HashMap<>();

    private static Supplier<AsLastTime> made = Salons::busy;

    public static void main(String[] args) {
        theSnapshotSeesChanges();
        set();
        handAndVisit();
        told();
        texts();
        visits();
        best();
        pictures();
        seen();
        film();
        drawing();
        count();
        sheetAndCell();
        copy();
        visitsBySheet();
        taken();
        fullOfHands();
        fullOfVisits();
        fullOfTexts();
        fullOfTape();
        empty();
        inThought();
        CHECK.end();
    }

    /** The call answers so, and all that can be asked is then as without it. */
    private static void refused(long due, String name, int... args) {
        AsLastTime x = made.get();
        CHECK.due(Calls.shown(name, args), Calls.answer(x, name, args), due);
        List<String> without = UNTOUCHED.computeIfAbsent(made, m -> Whole.of(m.get(), Salons.REST_OF_TAPE));
        List<String> with = Whole.of(x, Salons.REST_OF_TAPE);
        for (int i = 0; i < with.size() || i < without.size(); i++) {
            String is = i < with.size() ? with.get(i) : "no more";
            String was = i < without.size() ? without.get(i) : "no more";
            if (!is.equals(was)) {
                CHECK.holds(Calls.shown(name, args) + " changes " + was + " to " + is, false);
                return;
            }
        }
        CHECK.holds(Calls.shown(name, args) + " changes nothing", true);
    }

    /** The numbers just outside of both ends, and far outside, at one place of the arguments. */
    private static void outside(long due, String name, int at, int least, int most, int... args) {
        for (int v : new int[] {least - 1, most + 1, LEAST, MOST}) {
            int[] with = args.clone();
            with[at] = v;
            refused(due, name, with);
        }
    }

    /** So that a snapshot that is blind for something does not go unseen. */
    private static void theSnapshotSeesChanges() {
        int[][] sets = {{0, 3, 7}, {1, 2, 7}, {2, 1, 7}, {3, 0, 7}, {4, 1, 7}, {5, 1, 7}, {6, 1, 7}, {7, 2, 0},
            {8, 2, 7}, {9, 2, 1}};
        for (int[] set : sets) {
            seesChange("set", set);
        }
        seesChange("hand", 0, 0, 0);
        seesChange("visit", 0, 0);
        seesChange("feed", 32);
        seesChange("text");
        seesChange("force", 0);
        seesChange("go", 0);
        seesChange("film", 3, 0, 0);
        seesChange("image");
        seesChange("back");
        seesChange("sheet", 0, 1, 4);
        seesChange("sheet", 0, 0, 3);
        seesChange("sheet", 2, -1, 0);
        for (int sheet = 0; sheet < 3; sheet++) {
            for (int i = 0; i < 4; i++) {
                seesChange("cell", sheet, i, 13);
            }
        }
        seesChange("copy", 1, 1, 1, 3, 1);
        seesChange("visits", 0, 0, 0, 1);
    }

    private static void seesChange(String name, int... args) {
        AsLastTime x = Salons.busy();
        Calls.answer(x, name, args);
        CHECK.holds("it is seen what changes by " + Calls.shown(name, args),
                !Whole.of(x, Salons.REST_OF_TAPE).equals(Whole.of(Salons.busy(), Salons.REST_OF_TAPE)));
    }

    /** "-100: none such." */
    private static void set() {
        outside(-100, "set", 0, 0, 9, 0, 0, 1);
        for (int what = 0; what <= 2; what++) {
            outside(-100, "set", 1, 0, 3, what, 0, 1);
            outside(-100, "set", 2, 0, 199, what, 0, 0);
        }
        outside(-100, "set", 2, -1, 199, 3, 0, 0);
        int[] most = {9, 10, 199, 1, 20, 3};
        for (int what = 4; what <= 9; what++) {
            outside(-100, "set", 1, 0, what <= 6 ? 1 : 2, what, 0, 1);
            outside(-100, "set", 2, 0, most[what - 4], what, 0, 0);
        }
    }

    private static void handAndVisit() {
        outside(BAD, "hand", 0, 0, 5, 0, 0, 0);
        outside(BAD, "hand", 1, 0, 910, 0, 0, 0);
        for (int what : new int[] {11, 99, 111, 911, 999, 1000, 1010, -100, -99, -990}) {
            refused(BAD, "hand", 0, what, 0);
        }
        outside(BAD, "hand", 2, 0, 199, 0, 0, 0);
        outside(BAD, "visit", 0, 0, 1, 0, 0);
        outside(BAD, "visit", 1, 0, 203, 0, 0);
        for (int what : new int[] {4, 9, 14, 19, 204, 209, 210, 213, -10, -7}) {
            refused(BAD, "visit", 0, what);
        }
    }

    private static void told() {
        int[] sizes = {4, 4, 4, 0, 2, 2, 2, 3, 3, 3, 2};
        for (int what = 0; what <= 10; what++) {
            if (what != 3) {
                outside(-100, "told", 0, 0, sizes[what] - 1, 0, what);
            }
        }
        outside(-100, "told", 1, 0, 10, 0, 0);
    }

    private static void texts() {
        outside(BAD, "feed", 0, 0, 255, 0);
        outside(BAD, "force", 0, 0, 1, 0);
    }

    private static void visits() {
        outside(BAD, "once", 0, 0, 2, 0, 0);
        outside(BAD, "once", 1, 0, 5, 0, 0);
        outside(BAD, "go", 0, 0, 2, 0);
        outside(BAD, "course", 0, 0, 2, 0, 0);
        outside(BAD, "course", 1, 0, 3, 0, 0);
        outside(BAD, "bad", 0, 0, 3, 0);
        outside(-1000, "drift", 0, 0, 3, 0);
    }

    private static void best() {
        outside(BAD, "say", 0, 0, 3, 0, 0);
        refused(BAD, "say", 5, 0);
        outside(BAD, "say", 1, 0, 1, 0, 0);
        outside(BAD, "whom", 0, 0, 1, 0);
        outside(BAD, "when", 0, 0, 2, 0, 0);
        outside(BAD, "when", 1, 0, 1, 0, 0);
        outside(BAD, "again", 0, 0, 199, 0);
    }

    private static void pictures() {
        for (int sheet : new int[] {0, 3}) {
            outside(BAD, "pictures", 0, 0, 3, sheet, 0);
            outside(BAD, "pictures", 1, 0, 3, sheet, 0);
        }
        refused(-11, "pictures", 3, 0);
        refused(-11, "pictures", 3, 3);
        refused(BAD, "pictures", 0, 0);
        refused(BAD, "pictures", 2, 3);
    }

    private static void seen() {
        int[] sizes = {3, 3, 3, 2, 2};
        for (int sheet : new int[] {0, 3}) {
            outside(BAD, "seen", 0, 0, 3, sheet, 0, 0, 0);
            outside(BAD, "seen", 1, 0, 3, sheet, 0, 0, 0);
            outside(BAD, "seen", 2, 0, 5, sheet, 0, 0, 0);
            for (int what = 0; what < 5; what++) {
                outside(BAD, "seen", 3, 0, sizes[what] - 1, sheet, 0, what, 0);
            }
        }
        for (int what = 0; what <= 5; what++) {
            refused(-11, "seen", 3, 0, what, 0);
            refused(BAD, "seen", 0, 0, what, 0);
        }
        refused(-11, "seen", 3, 0, 5, -9);
        refused(BAD, "seen", 2, 3, 5, 9);
    }

    private static void film() {
        for (int sheet : new int[] {0, 3}) {
            outside(BAD, "film", 0, 0, 3, sheet, 0, 0);
            outside(BAD, "film", 1, 0, 3, sheet, 0, 0);
            outside(BAD, "film", 2, 0, 3, sheet, 0, 0);
        }
        refused(BAD, "film", 0, 0, 8);
    }

    private static void drawing() {
        for (int part = 0; part <= 1; part++) {
            outside(NO, "chance", 1, 1, 20, 0, 0, part);
        }
        outside(NO, "chance", 2, 0, 1, 0, 1, 0);
    }

    private static void count() {
        outside(BAD, "count", 0, 0, 5, 0);
    }

    /** "BAD: no such SHEET, sort; n above 40; -14." "BAD: no such SHEET; -11; -12." */
    private static void sheetAndCell() {
        for (int sort = -1; sort <= 2; sort++) {
            for (int n : new int[] {0, 41, -1}) {
                outside(BAD, "sheet", 0, 0, 3, 0, sort, n);
            }
        }
        for (int n : new int[] {0, 41, -1}) {
            outside(BAD, "sheet", 1, -1, 2, 0, 0, n);
        }
        for (int sort = 0; sort <= 2; sort++) {
            for (int sheet = 0; sheet <= 3; sheet++) {
                refused(BAD, "sheet", sheet, sort, 41);
                refused(BAD, "sheet", sheet, sort, MOST);
                refused(-14, "sheet", sheet, sort, -1);
                refused(-14, "sheet", sheet, sort, LEAST);
            }
        }
        outside(BAD, "cell", 0, 0, 3, 0, 0, 1);
        outside(BAD, "cell", 0, 0, 3, 0, -1, 1);
        for (int i : new int[] {0, -1, 40}) {
            refused(-11, "cell", 3, i, 1);
        }
        int[] sizes = {4, 4, 6};
        for (int sheet = 0; sheet < 3; sheet++) {
            outside(-12, "cell", 1, 0, sizes[sheet] - 1, sheet, 0, 1);
        }
    }

    /** "BAD: no such SHEET; -11; -13: they are of unlike sorts; -12 (also with n below 0)." */
    private static void copy() {
        for (int other : new int[] {0, 3}) {
            outside(BAD, "copy", 0, 0, 3, 0, 0, other, 0, 1);
            outside(BAD, "copy", 2, 0, 3, other, 0, 0, 0, 1);
        }
        refused(BAD, "copy", 4, -1, 3, -1, -1);
        refused(BAD, "copy", 3, -1, 4, -1, -1);
        for (int n : new int[] {0, 1, -1, 99}) {
            for (int sheet = 0; sheet < 3; sheet++) {
                refused(-11, "copy", 3, 0, sheet, 0, n);
                refused(-11, "copy", sheet, 0, 3, 0, n);
                refused(-13, "copy", sheet, 0, (sheet + 1) % 3, 0, n);
                refused(-13, "copy", (sheet + 1) % 3, -1, sheet, 99, n);
            }
            refused(-11, "copy", 3, 0, 3, 0, n);
        }
        for (int sheet = 0; sheet < 3; sheet++) {
            int size = sheet == 2 ? 6 : 4;
            int[][] outside = {{-1, 0, 1}, {0, -1, 1}, {0, 0, -1}, {size, 0, 1}, {0, size, 1}, {size + 1, 0, 0},
                {0, size + 1, 0}, {-1, 0, 0}, {0, -1, 0}, {0, 0, size + 1}, {1, 0, size}, {0, 1, size},
                {size - 1, 0, 2}, {0, size - 1, 2}, {LEAST, 0, 1}, {0, LEAST, 1}, {0, 0, LEAST}, {MOST, 0, 1},
                {0, MOST, 1}, {0, 0, MOST}, {1, 1, MOST}, {MOST, MOST, MOST}, {2, 2, -1}, {LEAST, 0, MOST}};
            for (int[] o : outside) {
                refused(-12, "copy", sheet, o[0], sheet, o[1], o[2]);
            }
        }
    }

    /** "BAD: no such SHEET, sort, n; -13; -11; -12: what stood ahead came." */
    private static void visitsBySheet() {
        for (int sheet : new int[] {0, 3}) {
            for (int from : new int[] {0, -1, 99}) {
                outside(BAD, "visits", 0, 0, 3, sheet, 0, from, 1);
                outside(BAD, "visits", 1, 0, 2, sheet, 0, from, 1);
                outside(BAD, "visits", 3, 0, 8, sheet, 0, from, 1);
                outside(BAD, "visits", 3, 0, 8, sheet, 1, from, 1);
            }
        }
        for (int from : new int[] {0, -1, 99}) {
            for (int n : new int[] {0, 1, 8}) {
                for (int sort = 0; sort <= 2; sort++) {
                    refused(-11, "visits", 3, sort, from, n);
                    refused(-13, "visits", sort, (sort + 1) % 3, from, n);
                    refused(-13, "visits", sort, (sort + 2) % 3, from, n);
                }
            }
        }
        for (int sheet = 0; sheet < 3; sheet++) {
            int size = sheet == 2 ? 6 : 4;
            for (int from : new int[] {-1, -2, size - 1, size, size + 1, LEAST, LEAST + 1, MOST, MOST - 1}) {
                refused(-12, "visits", sheet, sheet, from, 1);
                refused(-12, "visits", sheet, sheet, from, 8);
            }
        }
    }

    /** "BAD: k; -11: no such HAND; -13." */
    private static void taken() {
        outside(BAD, "taken", 1, 0, 5, 0, 0);
        outside(BAD, "taken", 1, 0, 5, 2, 0);
        for (int k = 0; k <= 5; k++) {
            outside(-11, "taken", 0, 0, 1, 0, k);
        }
        for (int k = 2; k <= 5; k++) {
            refused(-13, "taken", 0, k);
        }
        for (int k : new int[] {1, 3, 5}) {
            refused(-13, "taken", 1, k);
        }
    }

    private static AsLastTime busyWithHands() {
        AsLastTime x = Salons.busy();
        x.hand(2, 101, 1);
        x.hand(3, 102, 2);
        CHECK.due("the fifth hand has room", x.hand(5, 910, 199), 4);
        return x;
    }

    /** "BAD; FULL." */
    private static void fullOfHands() {
        made = RefusalsTest::busyWithHands;
        refused(FULL, "hand", 0, 0, 0);
        refused(FULL, "hand", 5, 910, 199);
        outside(BAD, "hand", 0, 0, 5, 0, 0, 0);
        outside(BAD, "hand", 1, 0, 910, 0, 0, 0);
        refused(BAD, "hand", 0, 11, 0);
        outside(BAD, "hand", 2, 0, 199, 0, 0, 0);
        outside(-100, "set", 1, 0, 4, 4, 0, 0);
        outside(-100, "set", 2, 0, 4, 7, 0, 0);
        outside(BAD, "visit", 0, 0, 4, 0, 0);
        outside(-11, "taken", 0, 0, 4, 0, 0);
        made = Salons::busy;
    }

    private static AsLastTime busyWithVisits() {
        AsLastTime x = Salons.busy();
        for (int v = 3; v < 8; v++) {
            CHECK.due("a visit has room", x.visit(v % 2, 10 * v + 1), v);
        }
        return x;
    }

    private static void fullOfVisits() {
        made = RefusalsTest::busyWithVisits;
        refused(FULL, "visit", 0, 0);
        refused(FULL, "visit", 1, 203);
        outside(BAD, "visit", 0, 0, 1, 0, 0);
        outside(BAD, "visit", 1, 0, 203, 0, 0);
        refused(BAD, "visit", 0, 4);
        // those that have no room are left out, so that none comes
        refused(0, "visits", 0, 0, 0, 2);
        refused(-12, "visits", 0, 0, 0, 3);
        outside(-100, "set", 1, 0, 7, 8, 0, 0);
        outside(BAD, "go", 0, 0, 7, 0);
        outside(BAD, "once", 0, 0, 7, 0, 0);
        outside(BAD, "course", 0, 0, 7, 0, 0);
        outside(BAD, "when", 0, 0, 7, 0, 0);
        outside(BAD, "say", 0, 0, 4, 0, 0);
        outside(BAD, "film", 2, 0, 8, 0, 0, 0);
        made = Salons::busy;
    }

    /** Six texts, the rule being the last of them, and no image or sheets. */
    private static AsLastTime fullTexts(String tape) {
        AsLastTime x = Salons.plain(30, 2);
        for (int text = 1; text <= 5; text++) {
            CHECK.due("a text has room", Salons.read(x, "grows " + text + ";evens 1;minds 1;"), text);
        }
        x.force(5);
        for (char c : tape.toCharArray()) {
            x.feed(c);
        }
        return x;
    }

    /** "FULL (ahead of all): no TEXT more has room (THE TAPE stays)." */
    private static void fullOfTexts() {
        for (String tape : new String[] {"", "grows", "12345", "grows 1;evens 1;minds 1;"}) {
            made = () -> fullTexts(tape);
            refused(FULL, "text");
            outside(BAD, "force", 0, 0, 5, 0);
        }
        made = Salons::busy;
    }

    private static AsLastTime fullTape() {
        AsLastTime x = Salons.plain(30, 2);
        String text = "grows 1;evens 1;minds 7;";
        for (int i = 0; i < 160; i++) {
            CHECK.due("a byte has room", x.feed(i < text.length() ? text.charAt(i) : 32), i + 1);
        }
        return x;
    }

    private static void fullOfTape() {
        made = RefusalsTest::fullTape;
        refused(FULL, "feed", 32);
        refused(FULL, "feed", 0);
        refused(FULL, "feed", 255);
        refused(FULL, "feed", ';');
        outside(BAD, "feed", 0, 0, 255, 0);
        made = Salons::busy;
    }

    /** What a new object refuses, for it has nothing. */
    private static void empty() {
        made = AsLastTime::new;
        refused(STATE, "back");
        refused(BAD, "visit", 0, 0);
        refused(BAD, "once", 0, 0);
        refused(BAD, "go", 0);
        refused(BAD, "course", 0, 0);
        refused(BAD, "when", 0, 0);
        refused(BAD, "say", 1, 0);
        refused(BAD, "force", 1);
        refused(NONE, "bad", 3);
        refused(NONE, "whom", 0);
        refused(NONE, "whom", 1);
        outside(BAD, "whom", 0, 0, 1, 0);
        refused(NONE, "again", 0);
        refused(NONE, "again", 199);
        outside(BAD, "again", 0, 0, 199, 0);
        refused(NONE, "drawn", 1);
        refused(NO, "chance", 1, 1, 0);
        refused(NO, "chance", 1, 1, 1);
        refused(BAD, "film", 0, 0, 1);
        for (int sheet = 0; sheet < 4; sheet++) {
            refused(-11, "pictures", sheet, 0);
            refused(-11, "cell", sheet, 0, 0);
            refused(-11, "seen", sheet, 0, 5, 0);
            refused(-11, "visits", sheet, 0, 0, 0);
            refused(-11, "copy", sheet, 0, sheet, 0, 0);
        }
        for (int what = 0; what < 5; what++) {
            refused(BAD, "seen", 0, 0, what, 0);
        }
        for (int k = 0; k <= 5; k++) {
            refused(-11, "taken", 0, k);
        }
        for (int what = 4; what <= 10; what++) {
            refused(-100, "told", 0, what);
            refused(-100, "set", what, 0, 0);
        }
        made = Salons::busy;
    }

    /** What is told, or done in thought alone, changes nothing; each answer as an object alike gives it. */
    private static void inThought() {
        made = () -> {
            AsLastTime x = Salons.busy();
            x.sheet(0, 0, 2);
            return x;
        };
        for (int what = 0; what < 6; what++) {
            same("once", 1, what);
            same("seen", 0, 1, what, 1);
            same("count", what);
        }
        for (int place = 0; place < 4; place++) {
            same("course", 2, place);
            same("bad", place);
            same("drift", place);
            same("pictures", 0, place);
        }
        for (int n = 0; n <= 3; n++) {
            same("say", n, n % 2);
        }
        same("whom", 0);
        same("when", 1, 1);
        same("when", 2, 0);
        same("marked");
        same("again", 9);
        same("drawn", 5);
        same("chance", 5, 20, 1);
        same("taken", 0, 0);
        same("told", 3, 2);
        made = Salons::busy;
    }

    private static void same(String name, int... args) {
        refused(Calls.answer(made.get(), name, args), name, args);
    }
}
