/** The bounds of promises 27 to 31: sheets, and what is taken for something, a test for each sentence. */
public final class EdgesOfHostTest {
    private static final Check CHECK = new Check("EdgesOfHostTest");
    private static final int BAD = AsLastTime.BAD, FULL = AsLastTime.FULL, NONE = AsLastTime.NONE;
    private static final int LEAST = Integer.MIN_VALUE, MOST = Integer.MAX_VALUE;

    public static void main(String[] args) {
        fourSheets();
        missingAtFirst();
        sorts();
        sizes();
        allZero();
        sizeDoesNotMatterToNone();
        itemsOfASheet();
        lowestBits();
        copyToTheEnds();
        copyAsTheyWere();
        copyOfLikeSorts();
        visitsNoneToEight();
        visitsToTheEnd();
        visitsAheadOfTheEndCame();
        visitsThatAreLeftOut();
        visitsFromOneOn();
        kindsUnderKinds();
        CHECK.end();
    }

    /** "SHEETS 0 .. 3" */
    private static void fourSheets() {
        AsLastTime x = Salons.loose(199, 1);
        for (int sheet = 0; sheet < 4; sheet++) {
            CHECK.due("sheet " + sheet, x.sheet(sheet, 1, 1), 1);
            CHECK.due("sheet " + sheet, x.cell(sheet, 0, sheet), 1);
        }
        for (int sheet = 0; sheet < 4; sheet++) {
            x.set(0, 0, sheet);
            for (int other = 0; other < 4; other++) {
                CHECK.due("sheets are by themselves", x.pictures(other, 0), other == sheet ? NONE : 0);
            }
        }
        for (int sheet : new int[] {-1, 4, LEAST, MOST}) {
            CHECK.due("sheet " + sheet, x.sheet(sheet, 1, 1), BAD);
            CHECK.due("cell of " + sheet, x.cell(sheet, 0, 0), BAD);
            CHECK.due("copy of " + sheet, x.copy(sheet, 0, 0, 0, 1), BAD);
            CHECK.due("copy to " + sheet, x.copy(0, 0, sheet, 0, 1), BAD);
            CHECK.due("visits of " + sheet, x.visits(sheet, 1, 0, 0), BAD);
            CHECK.due("pictures of " + sheet, x.pictures(sheet, 0), BAD);
            CHECK.due("seen of " + sheet, x.seen(sheet, 0, 5, 0), BAD);
            CHECK.due("film of " + sheet, x.film(sheet, 0, 0), BAD);
        }
    }

    /** "or missing (as all are at first)" */
    private static void missingAtFirst() {
        AsLastTime x = new AsLastTime();
        for (int sheet = 0; sheet < 4; sheet++) {
            CHECK.due("cell of none", x.cell(sheet, 0, 0), -11);
            CHECK.due("cell of none, outside", x.cell(sheet, -1, 0), -11);
            CHECK.due("visits of none", x.visits(sheet, 0, 0, 0), -11);
            CHECK.due("copy of none", x.copy(sheet, 0, sheet, 0, 0), -11);
        }
        for (int sheet = 0; sheet < 4; sheet++) {
            CHECK.due("a row of none is not missing", x.sheet(sheet, sheet % 3, 0), 1);
            CHECK.due("a row of none has no items", x.cell(sheet, 0, 0), -12);
            CHECK.due("missing again", x.sheet(sheet, -1, 0), 1);
            CHECK.due("missing again", x.cell(sheet, 0, 0), -11);
            CHECK.due("missing still", x.sheet(sheet, -1, 0), 1);
            CHECK.due("missing still", x.cell(sheet, 0, 0), -11);
        }
    }

    /** "of sort 0 bytes, 1 shorts, 2 ints" */
    private static void sorts() {
        for (int sort = 0; sort < 3; sort++) {
            AsLastTime x = new AsLastTime();
            CHECK.due("sort " + sort, x.sheet(0, sort, 3), 1);
            for (int as = 0; as < 3; as++) {
                CHECK.due("sort " + sort + " taken for one of " + as, x.visits(0, as, 0, 0), as == sort ? 0 : -13);
            }
            CHECK.due("taken for one of -1", x.visits(0, -1, 0, 0), BAD);
            CHECK.due("taken for one of 3", x.visits(0, 3, 0, 0), BAD);
        }
        AsLastTime x = new AsLastTime();
        for (int sort : new int[] {-2, 3, LEAST, MOST}) {
            CHECK.due("sort " + sort, x.sheet(0, sort, 3), BAD);
            CHECK.due("sort " + sort + ", below 0", x.sheet(0, sort, -1), BAD);
            CHECK.due("still missing", x.cell(0, 0, 0), -11);
        }
    }

    /** "n above 40; -14" */
    private static void sizes() {
        for (int sort = 0; sort < 3; sort++) {
            AsLastTime x = new AsLastTime();
            for (int n = 0; n <= 40; n++) {
                CHECK.due("a row of " + n, x.sheet(0, sort, n), 1);
                CHECK.due("a row of " + n + ": the last", x.cell(0, n - 1, 1), n > 0 ? 1 : -12);
                CHECK.due("a row of " + n + ": no more", x.cell(0, n, 1), -12);
            }
            for (int n : new int[] {41, 42, MOST}) {
                CHECK.due("a row of " + n, x.sheet(0, sort, n), BAD);
            }
            for (int n : new int[] {-1, -2, LEAST}) {
                CHECK.due("a row of " + n, x.sheet(0, sort, n), -14);
            }
            CHECK.due("it is still one of 40", x.cell(0, 39, 1), 1);
            CHECK.due("a new one of 41 is none", x.sheet(1, sort, 41), BAD);
            CHECK.due("a new one of -1 is none", x.sheet(1, sort, -1), -14);
            CHECK.due("missing still", x.cell(1, 0, 0), -11);
        }
    }

    /** "a row of n of a sort, all 0" */
    private static void allZero() {
        for (int sort = 0; sort < 3; sort++) {
            AsLastTime x = Salons.plain(0, 8);
            Salons.sheet(x, 0, sort, 1, 2, 3, 4, 5, 6, 7, 8);
            CHECK.due("not all 0", x.pictures(0, 0), 0);
            x.sheet(0, sort, 8);
            CHECK.due("all 0", x.pictures(0, 0), NONE);
            Salons.sheet(x, 0, sort, 1, 2, 3, 4, 5, 6, 7, 8);
            x.sheet(0, sort, 1);
            x.sheet(0, sort, 8);
            CHECK.due("all 0, having been shorter", x.pictures(0, 0), NONE);
            Salons.sheet(x, 0, sort, 1, 2, 3, 4, 5, 6, 7, 8);
            x.sheet(0, -1, 0);
            x.sheet(0, (sort + 1) % 3, 8);
            CHECK.due("all 0, having been missing", x.pictures(0, 0), NONE);
        }
    }

    /** "missing (sort -1: n does not matter)" */
    private static void sizeDoesNotMatterToNone() {
        AsLastTime x = new AsLastTime();
        for (int n : new int[] {0, 1, 40, 41, -1, LEAST, MOST}) {
            x.sheet(2, 1, 4);
            CHECK.due("missing, n " + n, x.sheet(2, -1, n), 1);
            CHECK.due("missing, n " + n, x.cell(2, 0, 0), -11);
        }
        CHECK.due("of a sheet that is none", x.sheet(4, -1, 0), BAD);
    }

    /** "Item i of a SHEET becomes v .. -12" */
    private static void itemsOfASheet() {
        for (int sort = 0; sort < 3; sort++) {
            AsLastTime x = Salons.plain(0, 0);
            x.sheet(0, sort, 3);
            for (int i : new int[] {-1, 3, 4, 39, 40, LEAST, MOST}) {
                CHECK.due("item " + i, x.cell(0, i, 12), -12);
            }
            CHECK.due("item 0", x.cell(0, 0, 12), 1);
            CHECK.due("item 2", x.cell(0, 2, 23), 1);
            int[] due = {12, 0, 23};
            for (int i = 0; i < 3; i++) {
                CHECK.due("item " + i + " is it alone", Salons.item(x, 0, sort, i), due[i]);
            }
        }
    }

    /** "(of bytes, shorts its lowest 8, 16 bits)" */
    private static void lowestBits() {
        int[][] items = {{12, 12, 12, 12}, {256 + 12, 12, -1, -1}, {65536 + 12, 12, 12, -1}, {-256 + 12, 12, -1, -1},
            {-65536 + 12, 12, 12, -1}, {LEAST + 12, 12, 12, -1}, {255, -1, -1, -1}, {65535, -1, -1, -1},
            {203, -1, 203, 203}, {123, 123, 123, 123}, {-1, -1, -1, -1}, {65536 + 203, -1, 203, -1}};
        for (int[] item : items) {
            for (int sort = 0; sort < 3; sort++) {
                AsLastTime x = Salons.plain(0, 0);
                Salons.sheet(x, 0, sort, 0, item[0], 0);
                CHECK.due(item[0] + " in sort " + sort, Salons.item(x, 0, sort, 1), item[sort + 1]);
                CHECK.due("beside it", Salons.item(x, 0, sort, 2), 0);
            }
        }
    }

    private static AsLastTime twoRows(int sort) {
        AsLastTime x = Salons.plain(0, 0);
        Salons.sheet(x, 0, sort, 10, 20, 30, 40);
        Salons.sheet(x, 1, sort, 51, 61, 71);
        return x;
    }

    private static void rowDue(String what, AsLastTime x, int sheet, int sort, int... due) {
        for (int i = 0; i < due.length; i++) {
            CHECK.due(what + ": item " + i, Salons.item(x, sheet, sort, i), due[i]);
        }
    }

    /** "n numbers of a SHEET, from item i on, come to another one's item j on: n"; "-12 (also with n below 0)" */
    private static void copyToTheEnds() {
        for (int sort = 0; sort < 3; sort++) {
            AsLastTime x = twoRows(sort);
            CHECK.due("all that has room", x.copy(0, 1, 1, 0, 3), 3);
            rowDue("all that has room", x, 1, sort, 20, 30, 40);
            x = twoRows(sort);
            CHECK.due("one more than has room", x.copy(0, 0, 1, 0, 4), -12);
            CHECK.due("one more than there is", x.copy(1, 0, 0, 1, 4), -12);
            CHECK.due("one more than there is, from 2 on", x.copy(0, 2, 1, 0, 3), -12);
            CHECK.due("one more than has room, at 2", x.copy(0, 0, 1, 2, 2), -12);
            rowDue("none of them came", x, 1, sort, 51, 61, 71);
            rowDue("none of them came", x, 0, sort, 10, 20, 30, 40);
            CHECK.due("the last", x.copy(0, 3, 1, 2, 1), 1);
            rowDue("the last", x, 1, sort, 51, 61, 40);
            CHECK.due("none, behind the last", x.copy(0, 4, 1, 3, 0), 0);
            CHECK.due("none, at 1 more", x.copy(0, 5, 1, 3, 0), -12);
            CHECK.due("none, to 1 more", x.copy(0, 4, 1, 4, 0), -12);
            CHECK.due("none, at -1", x.copy(0, -1, 1, 0, 0), -12);
            CHECK.due("none, to -1", x.copy(0, 0, 1, -1, 0), -12);
            CHECK.due("n -1", x.copy(0, 1, 1, 1, -1), -12);
            CHECK.due("n least", x.copy(0, 1, 1, 1, LEAST), -12);
            CHECK.due("so far that an int wraps", x.copy(0, 1, 1, 1, MOST), -12);
            CHECK.due("so far that an int wraps", x.copy(0, MOST, 1, 0, 1), -12);
            CHECK.due("so far that an int wraps", x.copy(0, 0, 1, MOST, 1), -12);
            rowDue("nothing else", x, 1, sort, 51, 61, 40);
        }
        AsLastTime x = new AsLastTime();
        x.sheet(0, 2, 40);
        x.sheet(1, 2, 40);
        CHECK.due("40", x.copy(0, 0, 1, 0, 40), 40);
        CHECK.due("41", x.copy(0, 0, 1, 0, 41), -12);
        x.sheet(2, 2, 0);
        CHECK.due("none of none", x.copy(2, 0, 2, 0, 0), 0);
        CHECK.due("one of none", x.copy(2, 0, 1, 0, 1), -12);
    }

    /** "(as they were)" */
    private static void copyAsTheyWere() {
        for (int sort = 0; sort < 3; sort++) {
            AsLastTime x = twoRows(sort);
            CHECK.due("up by 1", x.copy(0, 0, 0, 1, 3), 3);
            rowDue("up by 1", x, 0, sort, 10, 10, 20, 30);
            x = twoRows(sort);
            CHECK.due("down by 1", x.copy(0, 1, 0, 0, 3), 3);
            rowDue("down by 1", x, 0, sort, 20, 30, 40, 40);
            CHECK.due("to itself", x.copy(0, 0, 0, 0, 4), 4);
            rowDue("to itself", x, 0, sort, 20, 30, 40, 40);
            rowDue("where it comes from stays", x, 1, sort, 51, 61, 71);
        }
    }

    /** "-13: they are of unlike sorts" */
    private static void copyOfLikeSorts() {
        for (int from = 0; from < 3; from++) {
            for (int to = 0; to < 3; to++) {
                AsLastTime x = new AsLastTime();
                x.sheet(0, from, 2);
                x.sheet(1, to, 2);
                CHECK.due("sort " + from + " to " + to, x.copy(0, 0, 1, 0, 2), from == to ? 2 : -13);
                CHECK.due("sort " + from + " to " + to + ", none", x.copy(0, 0, 1, 0, 0), from == to ? 0 : -13);
                CHECK.due("sort " + from + " to " + to + ", outside", x.copy(0, 0, 1, 0, 3), from == to ? -12 : -13);
            }
        }
    }

    /** A row of as many visits by hand 0, of 1, 2, .. weeks. */
    private static AsLastTime rowOfVisits(int sort, int size) {
        AsLastTime x = Salons.plain(0, 0);
        x.sheet(0, sort, size);
        for (int i = 1; i < size; i += 2) {
            x.cell(0, i, 10 * (i / 2 % 12 + 1));
        }
        return x;
    }

    /** "n of them (0 .. 8): how many came" */
    private static void visitsNoneToEight() {
        for (int sort = 0; sort < 3; sort++) {
            for (int n = 0; n <= 8; n++) {
                AsLastTime x = rowOfVisits(sort, 18);
                CHECK.due(n + " visits", x.visits(0, sort, 0, n), n);
                CHECK.due(n + " visits", x.count(1), n);
                for (int v = 0; v < n; v++) {
                    CHECK.due("visit " + v, x.told(v, 8), v + 1);
                }
            }
            AsLastTime x = rowOfVisits(sort, 20);
            for (int n : new int[] {-1, 9, LEAST, MOST}) {
                CHECK.due(n + " visits", x.visits(0, sort, 0, n), BAD);
            }
            CHECK.due("none came", x.count(1), 0);
        }
    }

    /** "two by two": the last two are the last that come. */
    private static void visitsToTheEnd() {
        AsLastTime x = rowOfVisits(1, 40);
        CHECK.due("up to the end", x.visits(0, 1, 24, 8), 8);
        CHECK.due("up to the end", x.told(0, 8), 1);
        CHECK.due("up to the end", x.told(7, 8), 8);
        AsLastTime y = rowOfVisits(1, 4);
        CHECK.due("the last two", y.visits(0, 1, 2, 1), 1);
        CHECK.due("the last two", y.told(0, 8), 2);
        CHECK.due("all", y.visits(0, 1, 0, 2), 2);
        CHECK.due("three", y.count(1), 3);
        for (int from : new int[] {-1, 0, 4, 5, 99, LEAST, MOST}) {
            CHECK.due("none asks for no place, from " + from, y.visits(0, 1, from, 0), 0);
        }
        CHECK.due("none of a row of none", rowOfVisits(0, 0).visits(0, 0, 0, 0), 0);
        CHECK.due("one of a row of none", rowOfVisits(0, 0).visits(0, 0, 0, 1), -12);
        CHECK.due("one of a row of one", rowOfVisits(0, 1).visits(0, 0, 0, 1), -12);
        CHECK.due("one of a row of two", rowOfVisits(0, 2).visits(0, 0, 0, 1), 1);
    }

    /** "-12: what stood ahead came." */
    private static void visitsAheadOfTheEndCame() {
        int[][] cases = {{4, 0, 3, 2}, {5, 0, 3, 2}, {6, 0, 4, 3}, {4, 2, 2, 1}, {4, 3, 1, 0}, {4, 4, 1, 0}, {5, 3, 2, 1},
            {40, 25, 8, 7}, {40, 26, 8, 7}, {4, -1, 2, 0}, {4, -2, 8, 0}, {4, LEAST, 8, 0}, {4, MOST, 8, 0},
            {4, MOST - 1, 2, 0}};
        for (int[] c : cases) {
            AsLastTime x = rowOfVisits(2, c[0]);
            // two by two from an odd one on: weeks would be hands, so that there all are 0
            if (c[1] % 2 != 0) {
                x.sheet(0, 2, c[0]);
            }
            String call = "of " + c[0] + " from " + c[1] + " on " + c[2];
            CHECK.due(call, x.visits(0, 2, c[1], c[2]), -12);
            CHECK.due(call + ": so many came", x.count(1), c[3]);
        }
    }

    /** "(others are left out)" */
    private static void visitsThatAreLeftOut() {
        AsLastTime x = Salons.plain(0, 0);
        Salons.sheet(x, 0, 2, 1, 10, 0, 20, -1, 30, 0, -1, 0, 204, 0, 210, 0, 203, LEAST, MOST);
        CHECK.due("two of eight", x.visits(0, 2, 0, 8), 2);
        CHECK.due("two", x.count(1), 2);
        CHECK.due("the first of them", x.told(0, 8), 2);
        CHECK.due("the second of them", x.told(1, 8), 20);
        AsLastTime y = Salons.plain(0, 7);
        Salons.sheet(y, 0, 2, 0, 11, 0, 12, 0, 13);
        CHECK.due("one has room", y.visits(0, 2, 0, 3), 1);
        CHECK.due("eight", y.count(1), 8);
        CHECK.due("the first of them", y.told(7, 9), 1);
        CHECK.due("none has room", y.visits(0, 2, 0, 3), 0);
        CHECK.due("none has room", y.visit(0, 11), FULL);
        CHECK.due("outside all the same", y.visits(0, 2, 0, 4), -12);
        AsLastTime z = new AsLastTime();
        z.sheet(0, 2, 2);
        CHECK.due("without hands none comes", z.visits(0, 2, 0, 1), 0);
    }

    /** "from one on" */
    private static void visitsFromOneOn() {
        AsLastTime x = Salons.plain(0, 0);
        Salons.sheet(x, 0, 1, 0, 0, 12, 0, 23);
        CHECK.due("from 1 on", x.visits(0, 1, 1, 2), 2);
        CHECK.due("from 1 on", x.told(0, 9), 2);
        CHECK.due("from 1 on", x.told(1, 9), 3);
        CHECK.due("from 1 on", x.told(1, 8), 2);
    }

    /** "one of KIND k (0 .. 5), or one under that one (also by others between)" */
    private static void kindsUnderKinds() {
        int[][] above = {{0}, {1, 0}, {2, 0}, {3, 1, 0}, {4, 2, 0}, {5, 0}};
        for (int kind = 0; kind < 6; kind++) {
            for (int number = 0; number <= 9; number += 9) {
                AsLastTime x = new AsLastTime();
                x.hand(kind, 100 * number, 0);
                int[] due = {-13, -13, -13, -13, -13, -13};
                for (int k : above[kind]) {
                    due[k] = number;
                }
                for (int k = 0; k < 6; k++) {
                    CHECK.due("a hand of kind " + kind + " taken for " + k, x.taken(0, k), due[k]);
                    CHECK.due("no hand 1", x.taken(1, k), -11);
                    CHECK.due("no hand -1", x.taken(-1, k), -11);
                }
                for (int k : new int[] {-1, 6, LEAST, MOST}) {
                    CHECK.due("taken for " + k, x.taken(0, k), BAD);
                    CHECK.due("no hand, taken for " + k, x.taken(1, k), BAD);
                }
            }
        }
    }
}
