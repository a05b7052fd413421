import java.util.ArrayDeque;
import java.util.ArrayList;
import java.util.Arrays;
import java.util.Deque;
import java.util.List;
import java.util.TreeMap;
import java.util.TreeSet;

/**
 * The document once more, written with sets of dots and lists, as slow as it likes: what the program
 * answers in long runs is held against it.
 */
final class Model {
    static final int NONE = -1, UNKNOWN = -1000000001, OUTSIDE = -1000000002, NOT = -1000000003, FULL = -1000000004;
    private static final int ALL = (1 << 30) - 1;

    /** Section 2; one that is kept is never changed. */
    private static final class State {
        int wind = 0;
        int bats = 0;
        int dusks = 0;
        boolean rain = false;
        TreeSet<Integer> eyes = new TreeSet<>();
        TreeSet<Integer> smoke = new TreeSet<>();
        TreeMap<Integer, Integer> sitterAt = new TreeMap<>();
        List<Integer> lamps = new ArrayList<>();
        int[] glasses = new int[4];
        List<int[]> album = new ArrayList<>();

        State copy() {
            State c = new State();
            c.wind = wind;
            c.bats = bats;
            c.dusks = dusks;
            c.rain = rain;
            c.eyes.addAll(eyes);
            c.smoke.addAll(smoke);
            c.sitterAt.putAll(sitterAt);
            c.lamps.addAll(lamps);
            c.glasses = glasses.clone();
            c.album.addAll(album);
            return c;
        }
    }

    private final StringBuilder text = new StringBuilder();
    private int faultAt = NONE;
    private int gnats = 0;
    private List<TreeSet<Integer>> outlines = new ArrayList<>();
    private List<Integer> critics = new ArrayList<>();
    private int windows = 0;
    private State state = new State();
    private final Deque<State> undoable = new ArrayDeque<>();
    private final State[] images = new State[2];
    private final long[] imageSeeds = new long[2];
    private final List<int[]> rumours = new ArrayList<>();
    private long seed = 0;

    // ---- sets

    private static TreeSet<Integer> bits(int set) {
        TreeSet<Integer> found = new TreeSet<>();
        for (int k = 0; k < 30; k++) {
            if ((set & (1 << k)) != 0) {
                found.add(k);
            }
        }
        return found;
    }

    private static int number(Iterable<Integer> set) {
        int n = 0;
        for (int k : set) {
            n += 1 << k;
        }
        return n;
    }

    private static TreeSet<Integer> further(TreeSet<Integer> dots, int by) {
        TreeSet<Integer> moved = new TreeSet<>();
        for (int dot : dots) {
            int column = dot % 6 + by;
            if (column >= 0 && column <= 5) {
                moved.add(dot / 6 * 6 + column);
            }
        }
        return moved;
    }

    private TreeSet<Integer> wouldBeDrawn(int s, int lamp) {
        TreeSet<Integer> left = new TreeSet<>();
        for (int dot : further(outlines.get(s), lamp + state.wind)) {
            boolean taken = (state.bats >> (dot % 6) & 1) == 1 || state.eyes.contains(dot);
            if (!taken && left.size() < gnats) {
                left.add(dot);
            }
        }
        return left;
    }

    private TreeSet<Integer> drawn(int w) {
        if (!state.sitterAt.containsKey(w) || state.rain || state.smoke.contains(w)) {
            return new TreeSet<>();
        }
        return wouldBeDrawn(state.sitterAt.get(w), state.lamps.get(w));
    }

    private static int alike(TreeSet<Integer> a, TreeSet<Integer> b, int columns) {
        int n = 0;
        for (int dot = 0; dot < 30; dot++) {
            if ((columns >> (dot % 6) & 1) == 1 && a.contains(dot) == b.contains(dot)) {
                n++;
            }
        }
        return n;
    }

    private int seen(TreeSet<Integer> set, int columns) {
        int best = NONE;
        for (int s = outlines.size() - 1; s >= 0; s--) {
            if (best == NONE || alike(outlines.get(s), set, columns) >= alike(outlines.get(best), set, columns)) {
                best = s;
            }
        }
        return best;
    }

    private boolean noSitter(int s) {
        return s < 0 || s >= outlines.size();
    }

    private boolean noWindow(int w) {
        return w < 0 || w >= windows;
    }

    private static boolean noDots(int set) {
        return set < 0 || set > ALL;
    }

    private int windowOf(int s) {
        for (int w : state.sitterAt.keySet()) {
            if (state.sitterAt.get(w) == s) {
                return w;
            }
        }
        return NONE;
    }

    private void remember() {
        undoable.addLast(state);
        state = state.copy();
        if (undoable.size() > 16) {
            undoable.removeFirst();
        }
    }

    // ---- the capital

    int feed(int letter) {
        if (letter < 0 || letter > 255) {
            return OUTSIDE;
        }
        if (text.length() == 240) {
            return FULL;
        }
        text.append((char) letter);
        return text.length();
    }

    /** A clause's form: N a number, else the sign itself. */
    private static String form(char word) {
        return word == 's' ? "N,N,N,N,N;" : "N;";
    }

    private static boolean inBounds(char word, int n) {
        switch (word) {
            case 'g': return n >= 1 && n <= 30;
            case 's': return n <= 63;
            case 'w': return n <= 5;
            default: return n >= 1 && n <= 63;
        }
    }

    int capital() {
        String told = text.toString();
        text.setLength(0);
        faultAt = NONE;
        List<List<Integer>> clauses = new ArrayList<>();
        List<Character> words = new ArrayList<>();
        int[] room = new int[128];
        room['g'] = 1;
        room['s'] = 6;
        room['w'] = 5;
        room['c'] = 6;
        String due = "";
        char word = 0;
        int i = 0;
        while (i < told.length()) {
            char c = told.charAt(i);
            if (c == ' ') {
                i++;
            } else if (due.isEmpty()) {
                boolean known = c == 'g' || !words.isEmpty() && (c == 's' || c == 'w' || c == 'c');
                if (!known) {
                    return failed(1, i);
                }
                if (room[c]-- == 0) {
                    return failed(3, i);
                }
                word = c;
                words.add(c);
                clauses.add(new ArrayList<>());
                due = form(c);
                i++;
            } else if (due.charAt(0) == 'N') {
                int end = i;
                while (end < told.length() && told.charAt(end) >= '0' && told.charAt(end) <= '9') {
                    end++;
                }
                if (end == i) {
                    return failed(1, i);
                }
                if (end - i > 3 || !inBounds(word, Integer.parseInt(told.substring(i, end)))) {
                    return failed(2, i);
                }
                clauses.get(clauses.size() - 1).add(Integer.parseInt(told.substring(i, end)));
                due = due.substring(1);
                i = end;
            } else if (due.charAt(0) == c) {
                due = due.substring(1);
                i++;
            } else {
                return failed(1, i);
            }
        }
        if (!due.isEmpty()) {
            return failed(1, told.length());
        }
        return begin(words, clauses);
    }

    private int failed(int kind, int at) {
        faultAt = at;
        return -10 - kind;
    }

    private int begin(List<Character> words, List<List<Integer>> clauses) {
        gnats = 0;
        windows = 0;
        outlines = new ArrayList<>();
        critics = new ArrayList<>();
        state = new State();
        for (int k = 0; k < words.size(); k++) {
            List<Integer> numbers = clauses.get(k);
            if (words.get(k) == 'g') {
                gnats = numbers.get(0);
            } else if (words.get(k) == 'w') {
                state.lamps.add(numbers.get(0));
                windows++;
            } else if (words.get(k) == 'c') {
                critics.add(numbers.get(0));
            } else {
                TreeSet<Integer> outline = new TreeSet<>();
                for (int row = 0; row < 5; row++) {
                    for (int column : bits(numbers.get(row))) {
                        outline.add(6 * row + column);
                    }
                }
                outlines.add(outline);
            }
        }
        undoable.clear();
        Arrays.fill(images, null);
        rumours.clear();
        return outlines.size();
    }

    int fault() {
        return faultAt;
    }

    int told(int what) {
        TreeSet<Integer> cloud = new TreeSet<>();
        for (int w = 0; w < windows; w++) {
            cloud.addAll(drawn(w));
        }
        TreeSet<Integer> mayBe = new TreeSet<>();
        for (int[] pair : fitting()) {
            mayBe.add(pair[0]);
        }
        int[] all = {gnats, outlines.size(), windows, critics.size(), text.length(), state.dusks, state.wind + 3,
            state.bats, number(state.eyes), state.rain ? 1 : 0, number(state.smoke), number(cloud),
            state.album.size(), rumours.size(), number(mayBe), undoable.size()};
        return what < 0 || what >= all.length ? OUTSIDE : all[what];
    }

    int sitter(int s, int what) {
        if (noSitter(s)) {
            return UNKNOWN;
        }
        int often = 0;
        for (int[] entry : state.album) {
            often += entry[1] == s ? 1 : 0;
        }
        return pick(what, number(outlines.get(s)), windowOf(s), often);
    }

    private static int pick(int what, int... of) {
        return what < 0 || what >= of.length ? OUTSIDE : of[what];
    }

    int window(int w, int what) {
        if (noWindow(w)) {
            return UNKNOWN;
        }
        TreeSet<Integer> dots = drawn(w);
        return pick(what, state.lamps.get(w), state.sitterAt.getOrDefault(w, NONE), number(dots),
            dots.isEmpty() ? NONE : seen(dots, 63));
    }

    int album(int i, int what) {
        if (what < 0 || what > 2) {
            return OUTSIDE;
        }
        return i < 0 || i >= state.album.size() ? NONE : state.album.get(state.album.size() - 1 - i)[what];
    }

    int glass(int g) {
        return g < 0 || g > 3 ? UNKNOWN : state.glasses[g];
    }

    // ---- what is done

    int stand(int s, int w) {
        if (noSitter(s) || noWindow(w)) {
            return UNKNOWN;
        }
        if (state.sitterAt.containsKey(w)) {
            return NOT;
        }
        remember();
        int was = windowOf(s);
        state.sitterAt.remove(was);
        state.sitterAt.put(w, s);
        return was;
    }

    int go(int s) {
        if (noSitter(s)) {
            return UNKNOWN;
        }
        int was = windowOf(s);
        if (was == NONE) {
            return NOT;
        }
        remember();
        state.sitterAt.remove(was);
        return was;
    }

    int lamp(int w, int x) {
        if (noWindow(w)) {
            return UNKNOWN;
        }
        if (x < 0 || x > 5) {
            return OUTSIDE;
        }
        remember();
        return state.lamps.set(w, x);
    }

    int wind(int n) {
        if (n < -3 || n > 3) {
            return OUTSIDE;
        }
        if (gnats == 0) {
            return NOT;
        }
        remember();
        int was = state.wind;
        state.wind = n;
        return was + 3;
    }

    int bats(int set) {
        if (set < 0 || set > 63) {
            return OUTSIDE;
        }
        if (gnats == 0) {
            return NOT;
        }
        remember();
        int was = state.bats;
        state.bats = set;
        return was;
    }

    int eye(int dot) {
        if (dot < 0 || dot > 29) {
            return OUTSIDE;
        }
        if (gnats == 0) {
            return NOT;
        }
        remember();
        state.eyes.add(dot);
        return number(state.eyes);
    }

    int rain(boolean is) {
        if (gnats == 0) {
            return NOT;
        }
        remember();
        boolean was = state.rain;
        state.rain = is;
        return was ? 1 : 0;
    }

    int smoke(int w, boolean is) {
        if (noWindow(w)) {
            return UNKNOWN;
        }
        remember();
        boolean changed = is ? state.smoke.add(w) : state.smoke.remove(w);
        return changed == is ? 0 : 1;
    }

    int press(int g, int w) {
        if (g < 0 || g > 3 || noWindow(w)) {
            return UNKNOWN;
        }
        remember();
        int was = state.glasses[g];
        state.glasses[g] = number(drawn(w));
        return was;
    }

    int dusk(int n) {
        return dusks(n, false);
    }

    int drift(int n) {
        return dusks(n, true);
    }

    private int dusks(int n, boolean byDraws) {
        if (n < 1 || n > 60) {
            return OUTSIDE;
        }
        if (gnats == 0) {
            return NOT;
        }
        if (state.dusks > 9000) {
            return FULL;
        }
        remember();
        for (int i = 0; i < n; i++) {
            if (byDraws) {
                byDraw();
            }
            for (int w = 0; w < windows; w++) {
                if (!drawn(w).isEmpty()) {
                    state.album.add(new int[] {w, state.sitterAt.get(w), number(drawn(w))});
                }
            }
            while (state.album.size() > 20) {
                state.album.remove(0);
            }
            state.wind -= Integer.compare(state.wind, 0);
            state.bats = 0;
            state.rain = false;
            state.smoke.clear();
            if (state.dusks % 3 == 2) {
                state.eyes.clear();
            }
            state.dusks++;
        }
        return state.album.size();
    }

    private int draw(int n) {
        seed = (seed * 1103515245L + 12345L) % (1L << 31);
        return (int) (seed / 65536 % n);
    }

    private void byDraw() {
        int what = draw(6);
        if (what == 0) {
            state.wind = draw(7) - 3;
        } else if (what == 1) {
            state.bats = draw(64);
        } else if (what == 2) {
            state.eyes.add(draw(30));
        } else if (what == 3) {
            state.rain = true;
        } else if (what == 4 && !outlines.isEmpty() && windows > 0) {
            int s = draw(outlines.size());
            int w = draw(windows);
            if (!state.sitterAt.containsKey(w)) {
                state.sitterAt.remove(windowOf(s));
                state.sitterAt.put(w, s);
            }
        }
    }

    int undo() {
        if (undoable.isEmpty()) {
            return NOT;
        }
        state = undoable.removeLast();
        return undoable.size();
    }

    // ---- tried

    int like(int s, int set) {
        return noSitter(s) ? UNKNOWN : noDots(set) ? OUTSIDE : alike(outlines.get(s), bits(set), 63);
    }

    int seenAs(int set) {
        return noDots(set) ? OUTSIDE : seen(bits(set), 63);
    }

    int bestLamp(int w, int s, int what) {
        if (noWindow(w) || noSitter(s)) {
            return UNKNOWN;
        }
        int best = 5;
        int much = -1;
        for (int x = 5; x >= 0; x--) {
            int now = alike(outlines.get(s), wouldBeDrawn(s, x), 63);
            if (now >= much) {
                much = now;
                best = x;
            }
        }
        return pick(what, best, much);
    }

    int who(int set, int what) {
        if (noDots(set)) {
            return OUTSIDE;
        }
        TreeSet<Integer> pairs = new TreeSet<>();
        TreeSet<Integer> sitters = new TreeSet<>();
        for (int s = 0; s < outlines.size(); s++) {
            for (int by = -3; by <= 8; by++) {
                if (number(further(outlines.get(s), by)) == set) {
                    pairs.add(100 * s + by + 3);
                    sitters.add(s);
                }
            }
        }
        return pick(what, pairs.size(), number(sitters), pairs.isEmpty() ? NONE : pairs.first());
    }

    int parted(int set, int what) {
        if (noDots(set)) {
            return OUTSIDE;
        }
        TreeSet<Integer> ways = new TreeSet<>();
        for (int s = 0; s < outlines.size(); s++) {
            for (int q = 0; q < outlines.size(); q++) {
                for (int a = 0; a <= 5 && s < q; a++) {
                    for (int b = 0; b <= 5; b++) {
                        TreeSet<Integer> both = further(outlines.get(s), a);
                        both.addAll(further(outlines.get(q), b));
                        if (number(both) == set) {
                            ways.add(1000 * s + 100 * q + 10 * a + b);
                        }
                    }
                }
            }
        }
        return pick(what, ways.size(), ways.isEmpty() ? NONE : ways.first());
    }

    /** Every way to fill the windows is looked at, by its number in a system of as many figures as it takes. */
    int places(int w) {
        if (w != NONE && noWindow(w)) {
            return UNKNOWN;
        }
        int figures = outlines.size() + 1;
        int ways = (int) Math.pow(figures, windows);
        int[][] would = new int[windows][figures];
        for (int at = 0; at < windows; at++) {
            for (int s = 0; s < outlines.size(); s++) {
                would[at][s] = number(wouldBeDrawn(s, state.lamps.get(at)));
            }
        }
        int most = -1;
        int[] best = null;
        for (int way = 0; way < ways; way++) {
            int[] at = new int[windows];
            int rest = way;
            for (int k = windows - 1; k >= 0; k--) {
                at[k] = rest % figures;
                rest /= figures;
            }
            int count = filled(at, would);
            if (count > most) {
                most = count;
                best = at;
            }
        }
        return w == NONE ? most : best[w] == outlines.size() ? NONE : best[w];
    }

    private int filled(int[] at, int[][] would) {
        int count = 0;
        for (int a = 0; a < at.length; a++) {
            if (at[a] == outlines.size()) {
                continue;
            }
            count++;
            if (would[a][at[a]] == 0) {
                return -1;
            }
            for (int b = 0; b < a; b++) {
                if (at[b] != outlines.size() && (at[a] == at[b] || (would[a][at[a]] & would[b][at[b]]) != 0)) {
                    return -1;
                }
            }
        }
        return count;
    }

    int apart(int s, int q, int what) {
        if (noSitter(s) || noSitter(q) || s == q) {
            return UNKNOWN;
        }
        TreeSet<Integer> alone = new TreeSet<>();
        TreeSet<Integer> common = new TreeSet<>();
        for (int dot = 0; dot < 30; dot++) {
            boolean first = outlines.get(s).contains(dot);
            boolean second = outlines.get(q).contains(dot);
            if (first != second) {
                alone.add(dot);
            } else if (first) {
                common.add(dot);
            }
        }
        return pick(what, number(alone), alone.size(), number(common));
    }

    int turned(int set, int what) {
        if (noDots(set)) {
            return OUTSIDE;
        }
        TreeSet<Integer> in = bits(set);
        TreeSet<Integer> holes = new TreeSet<>();
        TreeSet<Integer> mirror = new TreeSet<>();
        for (int row = 0; row < 5; row++) {
            for (int column = 0; column < 6; column++) {
                if (in.contains(6 * row + column)) {
                    mirror.add(6 * row + 5 - column);
                } else if (isIn(in, row - 1, column) && isIn(in, row + 1, column)
                        && isIn(in, row, column - 1) && isIn(in, row, column + 1)) {
                    holes.add(6 * row + column);
                }
            }
        }
        return pick(what, number(holes), number(mirror));
    }

    /** Beyond the air nothing is asked for. */
    private static boolean isIn(TreeSet<Integer> set, int row, int column) {
        return row < 0 || row > 4 || column < 0 || column > 5 || set.contains(6 * row + column);
    }

    int votes(int set, int s) {
        if (s != NONE && noSitter(s)) {
            return UNKNOWN;
        }
        if (noDots(set)) {
            return OUTSIDE;
        }
        TreeMap<Integer, Integer> votes = new TreeMap<>();
        for (int columns : critics) {
            votes.merge(seen(bits(set), columns), 1, Integer::sum);
        }
        if (s != NONE) {
            return votes.getOrDefault(s, 0);
        }
        int best = NONE;
        for (int k : votes.keySet()) {
            if (k != NONE && (best == NONE || votes.get(k) > votes.get(best))) {
                best = k;
            }
        }
        return best;
    }

    int clear(int n, int q) {
        if (n < 0 || n > 60 || q < 0 || q > 100) {
            return OUTSIDE;
        }
        long odds = 1000000000L;
        for (int i = 0; i < n; i++) {
            odds = odds * q / 100;
        }
        return (int) odds;
    }

    // ---- what is told of

    private List<int[]> fitting() {
        List<int[]> pairs = new ArrayList<>();
        for (int s = 0; s < outlines.size(); s++) {
            for (int x = 0; x <= 5; x++) {
                boolean fits = true;
                for (int[] rumour : rumours) {
                    fits &= further(outlines.get(s), x).contains(rumour[0]) == (rumour[1] == 1);
                }
                if (fits) {
                    pairs.add(new int[] {s, x});
                }
            }
        }
        return pairs;
    }

    int tellOf(int dot, boolean is) {
        if (dot < 0 || dot > 29) {
            return OUTSIDE;
        }
        if (rumours.size() == 6) {
            return FULL;
        }
        rumours.add(new int[] {dot, is ? 1 : 0});
        return rumours.size();
    }

    int ask() {
        int best = NONE;
        int least = Integer.MAX_VALUE;
        for (int dot = 0; dot < 30; dot++) {
            int drawn = 0;
            int not = 0;
            for (int[] pair : fitting()) {
                if (further(outlines.get(pair[0]), pair[1]).contains(dot)) {
                    drawn++;
                } else {
                    not++;
                }
            }
            if (drawn > 0 && not > 0 && Math.max(drawn, not) < least) {
                least = Math.max(drawn, not);
                best = dot;
            }
        }
        return best;
    }

    int tear() {
        int was = rumours.size();
        rumours.clear();
        return was;
    }

    // ---- draws, images

    int seed(int v) {
        if (v < 0) {
            return OUTSIDE;
        }
        int was = (int) seed;
        seed = v;
        return was;
    }

    int keep(int i) {
        if (i != 0 && i != 1) {
            return UNKNOWN;
        }
        images[i] = state.copy();
        imageSeeds[i] = seed;
        undoable.clear();
        return 1;
    }

    int goBack(int i) {
        if (i != 0 && i != 1) {
            return UNKNOWN;
        }
        if (images[i] == null) {
            return NOT;
        }
        state = images[i].copy();
        seed = imageSeeds[i];
        undoable.clear();
        return 1;
    }
}
