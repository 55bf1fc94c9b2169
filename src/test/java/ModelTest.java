import java.util.ArrayList;
import java.util.List;
import java.util.Random;

/** Runs of calls that are drawn by seeds, answered by AsLastTime as PlainModel answers them. */
public final class ModelTest {
    private static final Check CHECK = new Check("ModelTest");
    private static final int CALLS = 512;
    private static final String[] NAMES = {"length", "last", "want", "weeks", "place", "hand"};

    private final Random random;
    private final AsLastTime real = new AsLastTime();
    private final PlainModel model = new PlainModel();
    private final List<String> told = new ArrayList<>();
    private boolean wrong = false;

    private ModelTest(long seed) {
        random = new Random(seed);
    }

    public static void main(String[] args) {
        int runs = args.length > 0 ? Integer.parseInt(args[0]) : 60;
        int first = args.length > 1 ? Integer.parseInt(args[1]) : 0;
        for (int run = first; run < first + runs; run++) {
            new ModelTest(run).run(run);
        }
        CHECK.end();
    }

    private void run(int run) {
        boolean wild = run % 4 == 3;
        if (run % 5 != 4) {
            populate();
        }
        while (told.size() < CALLS - 170 && !wrong) {
            if (random.nextInt(25) == 0) {
                someText();
            } else {
                someCall(wild && random.nextBoolean());
            }
        }
        if (wrong) {
            System.out.println("run " + run + ":");
            for (String call : told.subList(Math.max(0, told.size() - 300), told.size())) {
                System.out.println("  " + call);
            }
        }
    }

    private void populate() {
        int hands = 1 + random.nextInt(5);
        for (int h = 0; h < hands; h++) {
            call("hand", random.nextInt(6), 100 * random.nextInt(10) + random.nextInt(11), random.nextInt(90));
        }
        int visits = random.nextInt(9);
        for (int v = 0; v < visits; v++) {
            call("visit", random.nextInt(hands), 10 * random.nextInt(21) + random.nextInt(4));
        }
        for (int what = 0; what < 3; what++) {
            call("set", what, random.nextInt(4), random.nextInt(80));
        }
    }

    private int any(int size) {
        return random.nextInt(12) == 0 ? -1 + random.nextInt(size + 2) : random.nextInt(size);
    }

    private int edge() {
        int[] edges = {0, 1, -1, 2, 5, 8, 9, 10, 40, 41, 99, 199, 200, 255, 256, 1000, 65535, 32768,
            Integer.MAX_VALUE, Integer.MIN_VALUE, Integer.MAX_VALUE - 3};
        return edges[random.nextInt(edges.length)];
    }

    private void someCall(boolean wild) {
        String[] calls = {"set", "set", "set", "hand", "visit", "visit", "told", "force", "once", "once",
            "go", "course", "bad", "drift", "say", "whom", "when", "marked", "again", "pictures", "seen",
            "seen", "film", "film", "drawn", "chance", "image", "back", "count", "sheet", "cell", "cell",
            "copy", "visits", "taken", "feed"};
        String name = calls[random.nextInt(calls.length)];
        if (name.equals("feed") && random.nextInt(3) > 0) {
            name = "text";
        }
        int[] args = arguments(name);
        for (int i = 0; wild && i < args.length; i++) {
            args[i] = random.nextInt(3) == 0 ? edge() : args[i];
        }
        call(name, args);
    }

    private int[] arguments(String name) {
        int sheet = any(4);
        int place = any(4);
        switch (name) {
            case "set":
                int what = any(10);
                int[] most = {110, 110, 110, 110, 10, 11, 120, 5, 21, 4};
                return new int[] {what, any(what < 4 ? 4 : 5), any(what >= 0 && what < 10 ? most[what] : 9)};
            case "hand":
                return new int[] {any(6), 100 * any(10) + any(11), any(150)};
            case "visit":
                return new int[] {any(3), 10 * any(21) + any(4)};
            case "told":
                return new int[] {any(6), any(11)};
            case "force":
                return new int[] {any(3)};
            case "once":
                return new int[] {any(8), any(6)};
            case "go", "count", "again":
                return new int[] {any(name.equals("again") ? 60 : 7)};
            case "course":
                return new int[] {any(8), place};
            case "bad", "drift":
                return new int[] {any(4)};
            case "say":
                return new int[] {any(4) + random.nextInt(2), any(2)};
            case "whom":
                return new int[] {any(2)};
            case "when":
                return new int[] {any(6), any(2)};
            case "pictures":
                return new int[] {sheet, place};
            case "seen":
                return new int[] {sheet, place, any(6), any(4)};
            case "film":
                return new int[] {sheet, place, any(6)};
            case "drawn":
                return new int[] {random.nextInt()};
            case "chance":
                return new int[] {random.nextInt(), 1 + any(20), any(2)};
            case "sheet":
                return new int[] {sheet, any(3), any(10)};
            case "cell":
                return new int[] {sheet, any(6), random.nextInt(3) == 0 ? any(3) : any(203)};
            case "copy":
                return new int[] {sheet, any(4), any(4), any(4), any(4)};
            case "visits":
                return new int[] {sheet, any(3), any(3), any(4)};
            case "taken":
                return new int[] {any(5), any(6)};
            case "feed":
                return new int[] {random.nextInt(300) - 10};
            default:
                return new int[0];
        }
    }

    private void someText() {
        if (told.size() > CALLS - 340) {
            return;
        }
        String text = "grows " + someE(3) + ";evens " + someE(2) + "; minds " + someE(2) + ";";
        if (random.nextInt(3) == 0) {
            text = harmed(text);
        }
        if (text.length() > 100) {
            return;
        }
        for (int i = 0; i < text.length(); i++) {
            call("feed", text.charAt(i));
        }
        call("text");
        call("force", random.nextInt(6));
    }

    /** One byte is taken out, put in or put anew. */
    private String harmed(String text) {
        int at = random.nextInt(text.length());
        String signs = "();+-*<= \n19anot@";
        String put = random.nextInt(3) == 0 ? "" : signs.charAt(random.nextInt(signs.length())) + "";
        return text.substring(0, at) + put + text.substring(at + random.nextInt(2));
    }

    private String someE(int deep) {
        if (deep == 0 || random.nextInt(4) == 0) {
            return random.nextInt(3) == 0 ? random.nextInt(12) + "" : NAMES[random.nextInt(6)];
        }
        String[] signs = {" or ", " and ", "<", "=", "+", "-", "*", " + ", "*"};
        switch (random.nextInt(7)) {
            case 0:
                return "(" + someE(deep - 1) + ")";
            case 1:
                return "-" + someE(deep - 1);
            case 2:
                return "not " + someE(deep - 1);
            default:
                return someE(deep - 1) + signs[random.nextInt(signs.length)] + someE(deep - 1);
        }
    }

    private void call(String name, int... args) {
        long due = Calls.answer(model, name, args);
        long got = Calls.answer(real, name, args);
        told.add(Calls.shown(name, args) + " = " + got);
        CHECK.due("call " + told.size() + ", " + Calls.shown(name, args), got, due);
        wrong |= got != due;
    }
}
