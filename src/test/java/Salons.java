/** Objects as the tests want them at first, each with few calls gone. */
final class Salons {
    /** A rule by which nothing grows, nothing is evened and each step off is 1. */
    static final String LOOSE = "grows 0;evens 99;minds 1;";
    /** What busy() lacks on its tape to be a text. */
    static final String REST_OF_TAPE = "ds 5;";

    private Salons() {
    }

    /** One HAND that cuts just to wish, and visits with it of no weeks and no words. */
    static AsLastTime plain(int wish, int visits) {
        AsLastTime x = new AsLastTime();
        x.hand(0, 0, wish);
        for (int v = 0; v < visits; v++) {
            x.visit(0, 0);
        }
        return x;
    }

    /** Feeds a text and reads it. */
    static int read(AsLastTime x, String text) {
        for (int i = 0; i < text.length(); i++) {
            x.feed(text.charAt(i));
        }
        return x.text();
    }

    /** The rule becomes a new text, which has to be one. */
    static AsLastTime ruled(AsLastTime x, String text) {
        int number = read(x, text);
        if (number < 0) {
            throw new IllegalStateException("no text: " + text + " answered " + number);
        }
        x.force(number);
        return x;
    }

    /** LENGTH, LAST or WANT (what) of all places becomes these. */
    static AsLastTime places(AsLastTime x, int what, int a, int b, int c, int d) {
        x.set(what, 0, a);
        x.set(what, 1, b);
        x.set(what, 2, c);
        x.set(what, 3, d);
        return x;
    }

    /** A sheet becomes a row of a sort with these numbers. */
    static AsLastTime sheet(AsLastTime x, int sheet, int sort, int... numbers) {
        x.sheet(sheet, sort, numbers.length);
        for (int i = 0; i < numbers.length; i++) {
            x.cell(sheet, i, numbers[i]);
        }
        return x;
    }

    /** As plain(), by that rule. */
    static AsLastTime loose(int wish, int visits) {
        return ruled(plain(wish, visits), LOOSE);
    }

    /** What an item of a sheet is, read as the what of a visit by hand 0; sheet 3 is used up. */
    static int item(AsLastTime x, int sheet, int sort, int i) {
        x.sheet(3, sort, 2);
        x.copy(sheet, i, 3, 1, 1);
        x.image();
        boolean came = x.visits(3, sort, 0, 1) == 1;
        int v = x.count(1) - 1;
        int item = came ? 10 * x.told(v, 8) + x.told(v, 9) : -1;
        x.back();
        return item;
    }

    /** To which length place p is cut, that is long and remembers last. */
    static int cut(int kind, int what, int wish, int p, int is, int last, int word) {
        AsLastTime x = new AsLastTime();
        x.hand(kind, what, wish);
        x.visit(0, word);
        ruled(x, LOOSE);
        places(x, 0, is, is, is, is);
        places(x, 1, last, last, last, last);
        return x.once(0, p);
    }

    /**
     * Two hands, three visits, an image of one hand and two visits, two texts, a tape that holds
     * most of a third one, a sheet of each sort, and sheet 3 missing.
     */
    static AsLastTime busy() {
        AsLastTime x = new AsLastTime();
        x.hand(1, 305, 50);
        x.visit(0, 31);
        x.visit(0, 50);
        x.set(3, 0, 21);
        x.image();
        x.hand(4, 410, 25);
        x.visit(1, 203);
        places(x, 0, 41, 52, 63, 60);
        places(x, 1, 38, 39, 50, 61);
        places(x, 2, 30, 40, 45, 33);
        x.set(3, 0, 33);
        x.set(4, 0, 2);
        x.set(9, 1, 2);
        ruled(x, "grows weeks;evens 2;minds 3;");
        sheet(x, 0, 0, 0, 12, 1, 63);
        sheet(x, 1, 1, 1, 203, 0, 71);
        sheet(x, 2, 2, 0, 20, 1, 11, 0, 2);
        for (char c : "grows 3;evens 4;min".toCharArray()) {
            x.feed(c);
        }
        return x;
    }
}
