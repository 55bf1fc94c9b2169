/** Promises 27 to 31: sheet, cell, copy, visits, taken. */
public final class HostTest {
    private static final Check CHECK = new Check("HostTest");

    public static void main(String[] args) {
        sheets();
        cells();
        copies();
        copyRefuses();
        copyWithin();
        visits();
        visitsOfSorts();
        visitsRefuse();
        visitsWhenFull();
        taken();
        constants();
        CHECK.end();
    }

    private static void sheets() {
        AsLastTime x = new AsLastTime();
        CHECK.due("sheet 4", x.sheet(4, 0, 0), AsLastTime.BAD);
        CHECK.due("sheet -1", x.sheet(-1, 0, 0), AsLastTime.BAD);
        CHECK.due("sort 3", x.sheet(0, 3, 0), AsLastTime.BAD);
        CHECK.due("sort -2", x.sheet(0, -2, 0), AsLastTime.BAD);
        CHECK.due("n 41", x.sheet(0, 0, 41), AsLastTime.BAD);
        CHECK.due("n -1", x.sheet(0, 0, -1), -14);
        CHECK.due("sort is ahead of n", x.sheet(0, 3, -1), AsLastTime.BAD);
        CHECK.due("still missing", x.cell(0, 0, 0), -11);
        for (int sort = 0; sort < 3; sort++) {
            CHECK.due("n 40", x.sheet(sort, sort, 40), 1);
            CHECK.due("item 39", x.cell(sort, 39, 1), 1);
            CHECK.due("item 40", x.cell(sort, 40, 1), -12);
            CHECK.due("n 0", x.sheet(sort, sort, 0), 1);
            CHECK.due("item 0", x.cell(sort, 0, 1), -12);
            CHECK.due("n 41: the row stays", x.sheet(sort, sort, 41), AsLastTime.BAD);
            CHECK.due("item 0", x.cell(sort, 0, 1), -12);
        }
        CHECK.due("sheet 3", x.sheet(3, 2, 5), 1);
        CHECK.due("missing: n does not matter", x.sheet(3, -1, -7), 1);
        CHECK.due("missing: n does not matter", x.sheet(2, -1, 99), 1);
        CHECK.due("missing", x.cell(3, 0, 0), -11);
        CHECK.due("missing", x.cell(2, 0, 0), -11);
        CHECK.due("a row again", x.sheet(3, 2, 5), 1);
        AsLastTime y = Salons.plain(0, 3);
        Salons.sheet(y, 0, 1, 0, 0, 0);
        Salons.sheet(y, 1, 1, 5, 5, 5);
        CHECK.due("what it was", y.pictures(1, 0), 0);
        y.sheet(1, 1, 3);
        CHECK.due("all 0", y.pictures(1, 0), AsLastTime.NONE);
    }

    private static void cells() {
        AsLastTime x = new AsLastTime();
        CHECK.due("cell: sheet 4", x.cell(4, 0, 0), AsLastTime.BAD);
        CHECK.due("cell: sheet -1", x.cell(-1, 0, 0), AsLastTime.BAD);
        CHECK.due("cell: nothing", x.cell(0, -1, 0), -11);
        x.sheet(0, 2, 3);
        CHECK.due("cell: item 3", x.cell(0, 3, 0), -12);
        CHECK.due("cell: item -1", x.cell(0, -1, 0), -12);
        CHECK.due("cell: far outside", x.cell(0, Integer.MAX_VALUE, 0), -12);
        CHECK.due("cell: far outside", x.cell(0, Integer.MIN_VALUE, 0), -12);
        CHECK.due("cell", x.cell(0, 2, Integer.MIN_VALUE), 1);
    }

    private static void itemsDue(String what, AsLastTime x, int sheet, int sort, int... due) {
        for (int i = 0; i < due.length; i++) {
            CHECK.due(what + ": item " + i, Salons.item(x, sheet, sort, i), due[i]);
        }
    }

    private static void copies() {
        AsLastTime x = new AsLastTime();
        x.hand(0, 0, 0);
        Salons.sheet(x, 0, 2, 10, 20, 30, 40, 50);
        Salons.sheet(x, 1, 2, 1, 2, 3, 11, 12);
        CHECK.due("copy", x.copy(0, 1, 1, 2, 3), 3);
        itemsDue("copy", x, 1, 2, 1, 2, 20, 30, 40);
        itemsDue("copy: from where", x, 0, 2, 10, 20, 30, 40, 50);
        CHECK.due("copy all", x.copy(0, 0, 1, 0, 5), 5);
        itemsDue("copy all", x, 1, 2, 10, 20, 30, 40, 50);
        CHECK.due("copy none", x.copy(0, 5, 1, 5, 0), 0);
        CHECK.due("copy none", x.copy(0, 0, 1, 0, 0), 0);
        itemsDue("copy none", x, 1, 2, 10, 20, 30, 40, 50);
    }

    private static void copyRefuses() {
        AsLastTime x = new AsLastTime();
        x.hand(0, 0, 0);
        Salons.sheet(x, 0, 1, 1, 2, 3);
        Salons.sheet(x, 1, 0, 1, 2, 3);
        Salons.sheet(x, 2, 1, 10, 11, 12, 13);
        CHECK.due("copy: sheet 4", x.copy(4, 0, 0, 0, 1), AsLastTime.BAD);
        CHECK.due("copy: sheet -1", x.copy(-1, 0, 0, 0, 1), AsLastTime.BAD);
        CHECK.due("copy: to sheet 4", x.copy(0, 0, 4, 0, 1), AsLastTime.BAD);
        CHECK.due("copy: to sheet -1", x.copy(0, 0, -1, 0, 1), AsLastTime.BAD);
        CHECK.due("copy: BAD is ahead of nothing", x.copy(3, 0, 4, 0, 1), AsLastTime.BAD);
        CHECK.due("copy: from nothing", x.copy(3, 0, 0, 0, 1), -11);
        CHECK.due("copy: to nothing", x.copy(0, 0, 3, 0, 1), -11);
        CHECK.due("copy: nothing, ahead of outside", x.copy(0, 9, 3, 0, -1), -11);
        CHECK.due("copy: unlike sorts", x.copy(0, 0, 1, 0, 1), -13);
        CHECK.due("copy: unlike sorts, ahead of outside", x.copy(0, 9, 1, 0, -1), -13);
        int[][] outside = {{-1, 0, 1}, {0, -1, 1}, {0, 0, -1}, {0, 0, 4}, {1, 0, 3}, {3, 0, 1},
            {4, 0, 0}, {0, 2, 3}, {0, 4, 1}, {0, 5, 0}, {Integer.MAX_VALUE, 0, 1},
            {0, Integer.MAX_VALUE, 1}, {1, 1, Integer.MAX_VALUE}, {3, 0, Integer.MIN_VALUE}};
        for (int[] a : outside) {
            CHECK.due("copy: outside " + a[0] + " " + a[1] + " " + a[2],
                    x.copy(0, a[0], 2, a[1], a[2]), -12);
        }
        itemsDue("copy: nothing changes", x, 2, 1, 10, 11, 12, 13);
        CHECK.due("copy: to the end", x.copy(0, 0, 2, 1, 3), 3);
        itemsDue("copy: to the end", x, 2, 1, 10, 1, 2, 3);
    }

    private static void copyWithin() {
        AsLastTime x = new AsLastTime();
        x.hand(0, 0, 0);
        Salons.sheet(x, 0, 0, 10, 11, 12, 13, 20);
        CHECK.due("copy up", x.copy(0, 0, 0, 1, 4), 4);
        itemsDue("copy up: as they were", x, 0, 0, 10, 10, 11, 12, 13);
        CHECK.due("copy down", x.copy(0, 2, 0, 0, 3), 3);
        itemsDue("copy down: as they were", x, 0, 0, 11, 12, 13, 12, 13);
    }

    private static void visits() {
        AsLastTime x = new AsLastTime();
        x.hand(0, 0, 0);
        x.hand(0, 0, 0);
        Salons.sheet(x, 0, 1, 0, 203, 1, 0, 2, 0, 1, 4, 1, 72, 1);
        CHECK.due("visits: n 0", x.visits(0, 1, 0, 0), 0);
        CHECK.due("visits: three of five", x.visits(0, 1, 0, 5), 3);
        CHECK.due("visits: three", x.count(1), 3);
        int[] hands = {0, 1, 1};
        int[] weeks = {20, 0, 7};
        int[] words = {3, 0, 2};
        for (int v = 0; v < 3; v++) {
            CHECK.due("visits: hand of " + v, x.told(v, 7), hands[v]);
            CHECK.due("visits: weeks of " + v, x.told(v, 8), weeks[v]);
            CHECK.due("visits: word of " + v, x.told(v, 9), words[v]);
        }
        CHECK.due("visits: from 8 on", x.visits(0, 1, 8, 1), 1);
        CHECK.due("visits: half of two is outside", x.visits(0, 1, 10, 1), -12);
        CHECK.due("visits: none came", x.count(1), 4);
        CHECK.due("visits: what stood ahead came", x.visits(0, 1, 8, 2), -12);
        CHECK.due("visits: what stood ahead came", x.count(1), 5);
        CHECK.due("visits: from -1 on", x.visits(0, 1, -1, 1), -12);
        CHECK.due("visits: from 11 on", x.visits(0, 1, 11, 1), -12);
        CHECK.due("visits: far outside", x.visits(0, 1, Integer.MAX_VALUE, 8), -12);
        CHECK.due("visits: far outside", x.visits(0, 1, Integer.MIN_VALUE, 8), -12);
        CHECK.due("visits: none came", x.count(1), 5);
        CHECK.due("visits: none of 0 is outside", x.visits(0, 1, 99, 0), 0);
    }

    private static void visitsOfSorts() {
        AsLastTime x = new AsLastTime();
        x.hand(0, 0, 0);
        Salons.sheet(x, 0, 0, 256, 203, 0, 127, 0, 256 + 12);
        CHECK.due("bytes: 203 is -53, 127 no word", x.visits(0, 0, 0, 3), 1);
        CHECK.due("bytes: 268 is 12", x.told(0, 8), 1);
        CHECK.due("bytes: 268 is 12", x.told(0, 9), 2);
        Salons.sheet(x, 1, 1, 65536, 203, 0, 65536 + 13, 0, 32768);
        CHECK.due("shorts", x.visits(1, 1, 0, 3), 2);
        CHECK.due("shorts: 203", x.told(1, 8), 20);
        CHECK.due("shorts: 65549 is 13", x.told(2, 8), 1);
        Salons.sheet(x, 2, 2, 65536, 203, 0, 65536 + 13, 0, 121);
        CHECK.due("ints", x.visits(2, 2, 0, 3), 1);
        CHECK.due("ints: 121", x.told(3, 8), 12);
    }

    private static void visitsRefuse() {
        AsLastTime x = new AsLastTime();
        x.hand(0, 0, 0);
        Salons.sheet(x, 0, 1, 0, 0);
        CHECK.due("visits: sheet 4", x.visits(4, 1, 0, 1), AsLastTime.BAD);
        CHECK.due("visits: sheet -1", x.visits(-1, 1, 0, 1), AsLastTime.BAD);
        CHECK.due("visits: sort 3", x.visits(0, 3, 0, 1), AsLastTime.BAD);
        CHECK.due("visits: sort -1", x.visits(0, -1, 0, 1), AsLastTime.BAD);
        CHECK.due("visits: sort -1 of nothing", x.visits(1, -1, 0, 1), AsLastTime.BAD);
        CHECK.due("visits: n 9", x.visits(0, 1, 0, 9), AsLastTime.BAD);
        CHECK.due("visits: n -1", x.visits(0, 1, 0, -1), AsLastTime.BAD);
        CHECK.due("visits: another sort", x.visits(0, 0, 0, 1), -13);
        CHECK.due("visits: another sort", x.visits(0, 2, 0, 0), -13);
        CHECK.due("visits: another sort, ahead of outside", x.visits(0, 2, -1, 1), -13);
        for (int sort = 0; sort < 3; sort++) {
            CHECK.due("visits: nothing", x.visits(1, sort, -1, 1), -11);
        }
        CHECK.due("visits: nothing, n 0", x.visits(1, 0, 0, 0), -11);
        CHECK.due("visits: none came", x.count(1), 0);
    }

    private static void visitsWhenFull() {
        AsLastTime x = Salons.plain(0, 6);
        Salons.sheet(x, 0, 2, 0, 11, 0, 9, 0, 12, 0, 13, 0, 3);
        CHECK.due("visits: two have room", x.visits(0, 2, 0, 5), 2);
        CHECK.due("visits: eight", x.count(1), 8);
        CHECK.due("visits: the last of them", x.told(7, 9), 2);
        CHECK.due("visits: outside, when none has room, too", x.visits(0, 2, 0, 6), -12);
        CHECK.due("visits: full", x.visits(0, 2, 0, 5), 0);
    }

    private static void taken() {
        // of kind k: what may be taken for 0 .. 5
        boolean[][] may = {
            {true, false, false, false, false, false},
            {true, true, false, false, false, false},
            {true, false, true, false, false, false},
            {true, true, false, true, false, false},
            {true, false, true, false, true, false},
            {true, false, false, false, false, true}};
        for (int kind = 0; kind < 6; kind++) {
            AsLastTime x = new AsLastTime();
            x.hand(0, 900, 0);
            x.hand(kind, 100 * (kind + 1), 0);
            for (int k = 0; k < 6; k++) {
                CHECK.due("kind " + kind + ": taken(1, " + k + ")", x.taken(1, k),
                        may[kind][k] ? kind + 1 : -13);
            }
            CHECK.due("taken: kind 6", x.taken(1, 6), AsLastTime.BAD);
            CHECK.due("taken: kind -1", x.taken(1, -1), AsLastTime.BAD);
            CHECK.due("taken: no such hand", x.taken(2, 0), -11);
            CHECK.due("taken: no such hand", x.taken(-1, 0), -11);
            CHECK.due("taken: BAD is ahead of nothing", x.taken(2, 6), AsLastTime.BAD);
            CHECK.due("taken: another hand", x.taken(0, 0), 9);
        }
    }

    private static void constants() {
        CHECK.due("NONE", AsLastTime.NONE, -1);
        CHECK.due("BAD", AsLastTime.BAD, -2);
        CHECK.due("STATE", AsLastTime.STATE, -3);
        CHECK.due("FULL", AsLastTime.FULL, -4);
        CHECK.due("NO", AsLastTime.NO, -(1L << 62));
    }
}
