/** Objects as the tests want them at first, each with few calls gone. */
final class Salons {
    private Salons() {
    }

    /** One HAND that cuts just to wish, and visits with it of no weeks and no words. */
    static AsLastTime plain(int wish, int visits) {
        AsLastTime x = new AsLastTime();
        x.hand(0, 0, wish);
        for (int v = 0; v < visits; v++) {
            x.visit(0, 0);
        }
        return x;
    }

    /** Feeds a text and reads it. */
    static int read(AsLastTime x, String text) {
        for (int i = 0; i < text.length(); i++) {
            x.feed(text.charAt(i));
        }
        return x.text();
    }

    /** The rule becomes a new text, which has to be one. */
    static AsLastTime ruled(AsLastTime x, String text) {
        int number = read(x, text);
        if (number < 0) {
            throw new IllegalStateException("no text: " + text + " answered " + number);
        }
        x.force(number);
        return x;
    }

    /** LENGTH, LAST or WANT (what) of all places becomes these. */
    static AsLastTime places(AsLastTime x, int what, int a, int b, int c, int d) {
        x.set(what, 0, a);
        x.set(what, 1, b);
        x.set(what, 2, c);
        x.set(what, 3, d);
        return x;
    }

    /** A sheet becomes a row of a sort with these numbers. */
    static AsLastTime sheet(AsLastTime x, int sheet, int sort, int... numbers) {
        x.sheet(sheet, sort, numbers.length);
        for (int i = 0; i < numbers.length; i++) {
            x.cell(sheet, i, numbers[i]);
        }
        return x;
    }
}
