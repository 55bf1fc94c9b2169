import java.util.ArrayList;
import java.util.List;

/**
 * The document once more, written with the Java library and without any care for cost, to be held
 * against AsLastTime call by call. A text is kept as its bytes and read anew whenever it tells.
 */
final class PlainModel {
    private static final int[] PARENT = {-1, 0, 0, 1, 2, 0};
    private static final String FIRST = "grows weeks * 2 ; evens 1 ; minds 1 ;";

    /** A fault: its place. */
    private static final class Stop extends RuntimeException {
        private static final long serialVersionUID = 1L;
        final int value;

        Stop(int value) {
            super(null, null, false, false);
            this.value = value;
        }
    }

    private static final class Hand {
        int kind;
        int number;
        int share;
        int wish;
    }

    private static final class Visit {
        int hand;
        int weeks;
        int word;
    }

    private static final class World {
        int[] length = {40, 40, 40, 40};
        int[] last = {40, 40, 40, 40};
        int[] want = {40, 40, 40, 40};
        int mark = -1;
        List<Hand> hands = new ArrayList<>();
        List<Visit> visits = new ArrayList<>();
        int rule = 0;

        World another() {
            World w = new World();
            w.length = length.clone();
            w.last = last.clone();
            w.want = want.clone();
            w.mark = mark;
            w.rule = rule;
            for (Hand h : hands) {
                Hand g = new Hand();
                g.kind = h.kind;
                g.number = h.number;
                g.share = h.share;
                g.wish = h.wish;
                w.hands.add(g);
            }
            for (Visit v : visits) {
                Visit u = new Visit();
                u.hand = v.hand;
                u.weeks = v.weeks;
                u.word = v.word;
                w.visits.add(u);
            }
            return w;
        }
    }

    /** What a course leads to. */
    private static final class Course {
        List<int[]> lengths = new ArrayList<>();
        List<Integer> offs = new ArrayList<>();
        int cuts = 0;
        int badness = 0;
    }

    private World world = new World();
    private World kept = null;
    private final List<String> texts = new ArrayList<>(List.of(FIRST));
    private String tape = "";
    private final Object[] sheets = new Object[4];

    // ---- texts: read and told in one

    private final class Telling {
        final String text;
        final int[] names;
        int at = 0;
        String token;
        int place;

        Telling(String text, int[] names) {
            this.text = text;
            this.names = names;
            next();
        }

        Stop fault() {
            return new Stop(place);
        }

        void next() {
            while (at < text.length() && (text.charAt(at) == ' ' || text.charAt(at) == '\n')) {
                at++;
            }
            place = at;
            if (at == text.length()) {
                token = "";
                return;
            }
            int end = at + 1;
            for (String alike : List.of("abcdefghijklmnopqrstuvwxyz", "0123456789")) {
                while (alike.indexOf(text.charAt(at)) >= 0 && end < text.length()
                        && alike.indexOf(text.charAt(end)) >= 0) {
                    end++;
                }
            }
            token = text.substring(at, end);
            at = end;
        }

        int[] all() {
            int[] told = new int[3];
            String[] keys = {"grows", "evens", "minds"};
            for (int part = 0; part < 3; part++) {
                take(keys[part]);
                told[part] = anyOf(0);
                take(";");
            }
            if (!token.isEmpty()) {
                throw fault();
            }
            return told;
        }

        void take(String wanted) {
            if (!token.equals(wanted)) {
                throw fault();
            }
            next();
        }

        int anyOf(int open) {
            boolean is = false;
            int value = allOf(open);
            boolean joined = false;
            while (token.equals("or")) {
                is |= value != 0;
                joined = true;
                next();
                value = allOf(open);
            }
            return joined ? (is || value != 0 ? 1 : 0) : value;
        }

        int allOf(int open) {
            int value = notOf(open);
            while (token.equals("and")) {
                next();
                int other = notOf(open);
                value = value != 0 && other != 0 ? 1 : 0;
            }
            return value;
        }

        int notOf(int open) {
            if (token.equals("not")) {
                if (open == 5) {
                    throw fault();
                }
                next();
                return notOf(open + 1) == 0 ? 1 : 0;
            }
            int value = sum(open);
            if (token.equals("<")) {
                next();
                return value < sum(open) ? 1 : 0;
            }
            if (token.equals("=")) {
                next();
                return value == sum(open) ? 1 : 0;
            }
            return value;
        }

        int sum(int open) {
            int value = term(open);
            while (token.equals("+") || token.equals("-")) {
                boolean plus = token.equals("+");
                next();
                int other = term(open);
                value = plus ? value + other : value - other;
            }
            return value;
        }

        int term(int open) {
            int value = one(open);
            while (token.equals("*")) {
                next();
                value *= one(open);
            }
            return value;
        }

        int one(int open) {
            if (!token.isEmpty() && Character.digit(token.charAt(0), 10) >= 0 && token.length() <= 4) {
                int value = Integer.parseInt(token);
                next();
                return value;
            }
            int name = List.of("length", "last", "want", "weeks", "place", "hand").indexOf(token);
            if (name >= 0) {
                next();
                return names[name];
            }
            if (open < 5 && token.equals("-")) {
                next();
                return -one(open + 1);
            }
            if (open < 5 && token.equals("(")) {
                next();
                int value = anyOf(open + 1);
                take(")");
                return value;
            }
            throw fault();
        }
    }

    private int tell(World w, int part, int p, Visit v) {
        int[] names = {w.length[p], w.last[p], w.want[p], v == null ? 0 : v.weeks, p, v == null ? 0 : v.hand};
        int told = new Telling(texts.get(w.rule), names).all()[part];
        return told < 0 ? 0 : told > 99 ? 99 : told;
    }

    // ---- a visit

    private int means(Hand h, int kind, int p, int m) {
        if (kind == 1) {
            return means(h, 0, p, m) - h.number;
        }
        if (kind == 3) {
            return means(h, 1, p, m) - (p == 1 || p == 3 ? 3 : 0);
        }
        if (kind == 0) {
            return (h.share * m + (10 - h.share) * h.wish) / 10;
        }
        return means(h, PARENT[kind], p, m);
    }

    private int leaves(int kind, int length, int e) {
        if (kind == 2) {
            return (length + e) / 2;
        }
        if (kind == 4) {
            return (length + leaves(2, length, e)) / 2;
        }
        if (kind == 5) {
            return e - Math.floorMod(e, 5);
        }
        return kind == 0 ? e : leaves(PARENT[kind], length, e);
    }

    private int undergo(World w, Visit v) {
        Hand h = w.hands.get(v.hand);
        for (int p = 0; p < 4; p++) {
            w.length[p] = Math.min(199, w.length[p] + tell(w, 0, p, v));
        }
        for (int p = 0; p < 4; p++) {
            int e = means(h, h.kind, p, w.last[p]);
            if (v.word == 1) {
                e = (w.length[p] + e) / 2;
            } else if (v.word == 2) {
                e -= 10;
            } else if (v.word == 3 && w.mark != -1) {
                e = w.mark;
            }
            w.length[p] = Math.max(0, Math.min(w.length[p], leaves(h.kind, w.length[p], e)));
        }
        int cuts = 0;
        for (int a = 0; a < 4; a += 2) {
            int b = a + 1;
            int times = 0;
            while (times < 30 && Math.abs(w.length[a] - w.length[b]) > tell(w, 1, a, v)) {
                if (w.length[a] > w.length[b]) {
                    w.length[a] = Math.max(0, w.length[b] - 1);
                } else {
                    w.length[b] = Math.max(0, w.length[a] - 1);
                }
                times++;
            }
            cuts += times;
        }
        w.last = w.length.clone();
        return cuts;
    }

    private int off(World w) {
        int off = 0;
        for (int p = 0; p < 4; p++) {
            off += Math.abs(w.length[p] - w.want[p]) * tell(w, 2, p, null);
        }
        return off;
    }

    private Course courseOf(World start) {
        World w = start.another();
        Course c = new Course();
        for (Visit v : w.visits) {
            c.cuts += undergo(w, v);
            c.lengths.add(w.length.clone());
            c.offs.add(off(w));
            c.badness += off(w);
        }
        return c;
    }

    private int badness(World w) {
        return courseOf(w).badness;
    }

    // ---- the face

    private static boolean in(int v, int least, int most) {
        return v >= least && v <= most;
    }

    int set(int what, int of, int v) {
        int was = what == 10 ? -100 : told(of, what);
        int[] most = {199, 199, 199, 199, 9, 10, 199, world.hands.size() - 1, 20, 3};
        if (!in(what, 0, 9) || (what != 3 && was == -100) || !in(v, what == 3 ? -1 : 0, most[what])) {
            return -100;
        }
        put(world, what, of, v);
        return was;
    }

    private static void put(World w, int what, int of, int v) {
        switch (what) {
            case 0 -> w.length[of] = v;
            case 1 -> w.last[of] = v;
            case 2 -> w.want[of] = v;
            case 3 -> w.mark = v;
            case 4 -> w.hands.get(of).number = v;
            case 5 -> w.hands.get(of).share = v;
            case 6 -> w.hands.get(of).wish = v;
            case 7 -> w.visits.get(of).hand = v;
            case 8 -> w.visits.get(of).weeks = v;
            default -> w.visits.get(of).word = v;
        }
    }

    int told(int of, int what) {
        if (what == 3) {
            return world.mark;
        }
        if (in(what, 0, 2)) {
            int[][] rows = {world.length, world.last, world.want};
            return in(of, 0, 3) ? rows[what][of] : -100;
        }
        if (in(what, 4, 6) || what == 10) {
            if (!in(of, 0, world.hands.size() - 1)) {
                return -100;
            }
            Hand h = world.hands.get(of);
            return what == 4 ? h.number : what == 5 ? h.share : what == 6 ? h.wish : h.kind;
        }
        if (in(what, 7, 9) && in(of, 0, world.visits.size() - 1)) {
            Visit v = world.visits.get(of);
            return what == 7 ? v.hand : what == 8 ? v.weeks : v.word;
        }
        return -100;
    }

    int hand(int kind, int what, int wish) {
        if (!in(kind, 0, 5) || !in(what, 0, 999) || what % 100 > 10 || !in(wish, 0, 199)) {
            return -2;
        }
        if (world.hands.size() == 5) {
            return -4;
        }
        Hand h = new Hand();
        h.kind = kind;
        h.number = what / 100;
        h.share = what % 100;
        h.wish = wish;
        world.hands.add(h);
        return world.hands.size() - 1;
    }

    int visit(int hand, int what) {
        if (!in(hand, 0, world.hands.size() - 1) || !in(what, 0, 209) || what % 10 > 3) {
            return -2;
        }
        if (world.visits.size() == 8) {
            return -4;
        }
        Visit v = new Visit();
        v.hand = hand;
        v.weeks = what / 10;
        v.word = what % 10;
        world.visits.add(v);
        return world.visits.size() - 1;
    }

    int feed(int letter) {
        if (!in(letter, 0, 255)) {
            return -2;
        }
        if (tape.length() == 160) {
            return -4;
        }
        tape += (char) letter;
        return tape.length();
    }

    int text() {
        if (texts.size() == 6) {
            return -4;
        }
        String read = tape;
        tape = "";
        try {
            new Telling(read, new int[6]).all();
        } catch (Stop fault) {
            return -100 - fault.value;
        }
        texts.add(read);
        return texts.size() - 1;
    }

    int force(int text) {
        if (!in(text, 0, texts.size() - 1)) {
            return -2;
        }
        int was = world.rule;
        world.rule = text;
        return was;
    }

    private boolean isVisit(int visit) {
        return in(visit, 0, world.visits.size() - 1);
    }

    int once(int visit, int what) {
        if (!isVisit(visit) || !in(what, 0, 5)) {
            return -2;
        }
        World w = world.another();
        int cuts = undergo(w, w.visits.get(visit));
        return what == 5 ? off(w) : what == 4 ? cuts : w.length[what];
    }

    int go(int visit) {
        if (!isVisit(visit)) {
            return -2;
        }
        undergo(world, world.visits.get(visit));
        return off(world);
    }

    int course(int visit, int place) {
        return isVisit(visit) && in(place, 0, 3) ? courseOf(world).lengths.get(visit)[place] : -2;
    }

    int bad(int what) {
        Course c = courseOf(world);
        int n = c.offs.size();
        switch (what) {
            case 0:
                return c.badness;
            case 1:
                return c.cuts;
            case 2:
                return n == 0 ? off(world) : c.offs.get(n - 1);
            case 3:
                return n == 0 ? -1 : c.offs.indexOf(c.offs.stream().max(Integer::compare).get());
            default:
                return -2;
        }
    }

    int drift(int place) {
        if (!in(place, 0, 3)) {
            return -1000;
        }
        Course c = courseOf(world);
        int n = c.lengths.size();
        return (n == 0 ? world.length : c.lengths.get(n - 1))[place] - world.want[place];
    }

    int say(int n, int what) {
        if (!in(n, 0, 4) || n > world.visits.size() || !in(what, 0, 1)) {
            return -2;
        }
        long best = Long.MAX_VALUE;
        String words = "";
        for (int way = 0; way < 1 << 2 * n; way++) {
            World w = world.another();
            String said = "";
            for (int v = 0; v < n; v++) {
                w.visits.get(v).word = (way >> 2 * (n - 1 - v)) & 3;
                said += w.visits.get(v).word;
            }
            int badness = badness(w);
            if (badness < best) {
                best = badness;
                words = said;
            }
        }
        return what == 0 ? (int) best : words.isEmpty() ? 0 : Integer.parseInt(words);
    }

    int whom(int what) {
        if (!in(what, 0, 1)) {
            return -2;
        }
        int[] best = {-1, -1};
        for (int h = 0; h < world.hands.size(); h++) {
            World w = world.another();
            for (Visit v : w.visits) {
                v.hand = h;
            }
            if (best[0] == -1 || badness(w) < best[1]) {
                best = new int[] {h, badness(w)};
            }
        }
        return best[what];
    }

    int when(int visit, int what) {
        if (!isVisit(visit) || !in(what, 0, 1)) {
            return -2;
        }
        int[] best = {-1, -1};
        for (int weeks = 0; weeks <= 20; weeks++) {
            World w = world.another();
            w.visits.get(visit).weeks = weeks;
            if (best[0] == -1 || badness(w) < best[1]) {
                best = new int[] {weeks, badness(w)};
            }
        }
        return best[what];
    }

    int marked() {
        World w = world.another();
        w.mark = w.want[0];
        for (Visit v : w.visits) {
            v.word = 3;
        }
        return badness(w) - badness(world);
    }

    int again(int near) {
        if (!in(near, 0, 199)) {
            return -2;
        }
        Course c = courseOf(world);
        int first = 0;
        for (int v = 0; v < c.lengths.size(); v++) {
            for (int p = 0; p < 4; p++) {
                if (Math.abs(c.lengths.get(v)[p] - world.want[p]) > near) {
                    first = v + 1;
                }
            }
        }
        return first == c.lengths.size() ? -1 : first;
    }

    private int size(int sheet) {
        return java.lang.reflect.Array.getLength(sheets[sheet]);
    }

    private int item(int sheet, int i) {
        return ((Number) java.lang.reflect.Array.get(sheets[sheet], i)).intValue();
    }

    private int otherwise(World w, int sheet, int place) {
        Course c = courseOf(w);
        for (int v = 0; v < size(sheet); v++) {
            if (c.lengths.get(v)[place] != item(sheet, v)) {
                return v;
            }
        }
        return -1;
    }

    int pictures(int sheet, int place) {
        if (!in(sheet, 0, 3) || !in(place, 0, 3)) {
            return -2;
        }
        if (sheets[sheet] == null) {
            return -11;
        }
        return size(sheet) > world.visits.size() ? -2 : otherwise(world, sheet, place);
    }

    int seen(int sheet, int place, int what, int of) {
        if (!in(sheet, 0, 3) || !in(place, 0, 3) || !in(what, 0, 5)) {
            return -2;
        }
        if (what < 3 && !isVisit(of) || what > 2 && what < 5 && !in(of, 0, world.hands.size() - 1)) {
            return -2;
        }
        if (sheets[sheet] == null) {
            return -11;
        }
        if (size(sheet) > world.visits.size()) {
            return -2;
        }
        int[] sizes = {world.hands.size(), 4, 21, 10, 11, texts.size()};
        int[] sets = {7, 9, 8, 4, 5};
        int bits = 0;
        for (int v = 0; v < sizes[what]; v++) {
            World w = world.another();
            if (what == 5) {
                w.rule = v;
            } else {
                put(w, sets[what], of, v);
            }
            bits += otherwise(w, sheet, place) == -1 ? 1 << v : 0;
        }
        return bits;
    }

    int film(int sheet, int place, int n) {
        if (!in(sheet, 0, 3) || !in(place, 0, 3) || !in(n, 0, world.visits.size())) {
            return -2;
        }
        short[] row = new short[n];
        for (int v = 0; v < n; v++) {
            row[v] = (short) courseOf(world).lengths.get(v)[place];
        }
        sheets[sheet] = row;
        return n;
    }

    int drawn(int seed) {
        if (world.hands.isEmpty()) {
            return -1;
        }
        World w = world.another();
        int z = seed;
        for (Visit v : w.visits) {
            z = z * 1103515245 + 12345;
            v.hand = (z >>> 9) % w.hands.size();
        }
        return badness(w);
    }

    long chance(int seed, int n, int part) {
        if (!in(n, 1, 20) || !in(part, 0, 1) || world.hands.isEmpty()) {
            return -4611686018427387904L;
        }
        int hits = 0;
        for (int i = 0; i < n; i++) {
            hits += drawn(seed + i) <= bad(0) ? 1 : 0;
        }
        int divisor = java.math.BigInteger.valueOf(hits).gcd(java.math.BigInteger.valueOf(n)).intValue();
        return (part == 0 ? hits : n) / divisor;
    }

    int image() {
        kept = world.another();
        return kept.visits.size();
    }

    int back() {
        if (kept == null) {
            return -3;
        }
        world = kept.another();
        return world.visits.size();
    }

    int count(int what) {
        int[] length = world.length;
        int[] all = {world.hands.size(), world.visits.size(), texts.size(), tape.length(), world.rule,
            length[0] + length[1] + length[2] + length[3]};
        return in(what, 0, 5) ? all[what] : -2;
    }

    int sheet(int sheet, int sort, int n) {
        if (!in(sheet, 0, 3) || !in(sort, -1, 2)) {
            return -2;
        }
        if (sort >= 0 && !in(n, 0, 40)) {
            return n > 40 ? -2 : -14;
        }
        switch (sort) {
            case 0 -> sheets[sheet] = new byte[n];
            case 1 -> sheets[sheet] = new short[n];
            case 2 -> sheets[sheet] = new int[n];
            default -> sheets[sheet] = null;
        }
        return 1;
    }

    int cell(int sheet, int i, int v) {
        if (!in(sheet, 0, 3)) {
            return -2;
        }
        if (sheets[sheet] == null) {
            return -11;
        }
        if (!in(i, 0, size(sheet) - 1)) {
            return -12;
        }
        if (sheets[sheet] instanceof byte[] row) {
            row[i] = (byte) v;
        } else if (sheets[sheet] instanceof short[] row) {
            row[i] = (short) v;
        } else {
            ((int[]) sheets[sheet])[i] = v;
        }
        return 1;
    }

    /** As the host does it: what it throws is what is due. */
    int copy(int sheet, int i, int other, int j, int n) {
        if (!in(sheet, 0, 3) || !in(other, 0, 3)) {
            return -2;
        }
        try {
            System.arraycopy(sheets[sheet], i, sheets[other], j, n);
        } catch (NullPointerException nothing) {
            return -11;
        } catch (ArrayStoreException unlike) {
            return -13;
        } catch (IndexOutOfBoundsException outside) {
            return -12;
        }
        return n;
    }

    int visits(int sheet, int sort, int from, int n) {
        if (!in(sheet, 0, 3) || !in(sort, 0, 2) || !in(n, 0, 8)) {
            return -2;
        }
        Class<?>[] sorts = {byte[].class, short[].class, int[].class};
        try {
            Object row = sorts[sort].cast(sheets[sheet]);
            if (row == null) {
                return -11;
            }
            int came = 0;
            for (int k = 0; k < n; k++) {
                int hand = item(sheet, from + 2 * k);
                int what = item(sheet, from + 2 * k + 1);
                came += visit(hand, what) >= 0 ? 1 : 0;
            }
            return came;
        } catch (ClassCastException another) {
            return -13;
        } catch (IndexOutOfBoundsException outside) {
            return -12;
        }
    }

    int taken(int hand, int k) {
        if (!in(k, 0, 5)) {
            return -2;
        }
        if (!in(hand, 0, world.hands.size() - 1)) {
            return -11;
        }
        Hand h = world.hands.get(hand);
        for (int kind = h.kind; kind >= 0; kind = PARENT[kind]) {
            if (kind == k) {
                return h.number;
            }
        }
        return -13;
    }
}
