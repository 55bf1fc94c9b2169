import java.util.ArrayList;
import java.util.List;

/**
 * All that can be asked of an object, line by line, so that two of them can be held against each
 * other. Asking uses the object up, by some 250 calls: it goes back to its image and reads its tape.
 */
final class Whole {
    private static final int MOST_ITEMS = 6;

    private final AsLastTime x;
    private final List<String> lines = new ArrayList<>();

    private Whole(AsLastTime x) {
        this.x = x;
    }

    /** The rest of the tape is what makes a text of it, if it can be one. */
    static List<String> of(AsLastTime x, String restOfTape) {
        Whole whole = new Whole(x);
        whole.state();
        whole.sheets();
        whole.ask("back");
        whole.state();
        whole.items();
        whole.texts(restOfTape);
        return whole.lines;
    }

    private long ask(String name, int... args) {
        long answer = Calls.answer(x, name, args);
        lines.add(Calls.shown(name, args) + " = " + answer);
        return answer;
    }

    private void askOfEach(int[] whats, int size) {
        for (int what : whats) {
            for (int of = 0; of < size; of++) {
                ask("told", of, what);
            }
        }
    }

    private void state() {
        for (int what = 0; what < 6; what++) {
            ask("count", what);
        }
        askOfEach(new int[] {0, 1, 2}, 4);
        askOfEach(new int[] {3}, 1);
        askOfEach(new int[] {4, 5, 6, 10}, x.count(0));
        askOfEach(new int[] {7, 8, 9}, x.count(1));
    }

    private void sheets() {
        for (int sheet = 0; sheet < 4; sheet++) {
            for (int sort = 0; sort < 3; sort++) {
                ask("visits", sheet, sort, 0, 0);
            }
            for (int n = 1; n <= MOST_ITEMS; n++) {
                ask("copy", sheet, 0, sheet, 0, n);
            }
        }
    }

    /** Items are asked two by two, as visits by hands 0 and 1 that come and go back. */
    private void items() {
        for (int h = x.count(0); h < 2; h++) {
            ask("hand", 0, 0, 0);
        }
        ask("image");
        for (int sheet = 0; sheet < 4; sheet++) {
            for (int sort = 0; sort < 3; sort++) {
                for (int i = 0; i + 1 < MOST_ITEMS && x.visits(sheet, sort, 0, 0) == 0; i += 2) {
                    ask("visits", sheet, sort, i, 1);
                    for (int what = 7; what <= 9; what++) {
                        ask("told", x.count(1) - 1, what);
                    }
                    ask("back");
                }
            }
        }
    }

    private void texts(String restOfTape) {
        for (int i = 0; i < restOfTape.length(); i++) {
            x.feed(restOfTape.charAt(i));
        }
        ask("text");
        for (int text = 0; text < x.count(2); text++) {
            ask("force", text);
            ask("bad", 0);
            ask("bad", 1);
        }
    }
}
