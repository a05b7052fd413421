/** Portraits that gnats draw in dots at the windows of a lakeside capital; see README.md. */
public final class GnatPortraits {
    public static final int NONE = -1, UNKNOWN = -1000000001, OUTSIDE = -1000000002, NOT = -1000000003, FULL = -1000000004;

    private static final int ROWS = 5;
    private static final int COLUMNS = 6;
    private static final int DOTS = 30;
    private static final int ALL_COLUMNS = 63;
    private static final int ALL_DOTS = 1073741823;
    /** Times a set of columns: the dots of these columns in every row. */
    private static final int EVERY_ROW = 17043521;

    private static final int MOST_LETTERS = 240;
    private static final int GREATEST_LETTER = 255;
    private static final int MOST_FIGURES = 3;
    private static final int MOST_SITTERS = 6;
    private static final int MOST_WINDOWS = 5;
    private static final int MOST_CRITICS = 6;
    private static final int GREATEST_LAMP = 5;
    private static final int GREATEST_WIND = 3;
    private static final int GLASSES = 4;
    private static final int IMAGES = 2;
    private static final int MOST_UNDONE = 16;
    private static final int MOST_TOLD_OF = 6;
    private static final int ALBUM_PLACES = 20;
    private static final int MOST_DUSKS_AT_ONCE = 60;
    private static final int LATEST_DUSK = 9000;

    private static final int MISPLACED = 1;
    private static final int BAD_NUMBER = 2;
    private static final int TOO_MANY = 3;
    private static final int FAULT_ANSWER = -10;

    private static final int LEAST_SHIFT = -3;
    private static final int GREATEST_SHIFT = 8;
    private static final int BILLION = 1000000000;
    private static final int HUNDRED = 100;
    private static final int GREATEST_SEED = 2147483647;

    private final Reader reader;
    private final Capital city;
    private final Evening now;
    private final Past past;
    private final Evening[] images;
    private final boolean[] imageKept;
    private final int[] imageSeeds;
    private final Placing placing;
    private final int[] tally;
    private int seedNow;
    private int toldOf;
    private int toldDrawn;
    private int toldMissing;

    public GnatPortraits() {
        reader = new Reader();
        city = new Capital();
        now = new Evening();
        past = new Past();
        images = new Evening[IMAGES];
        for (int i = 0; i < IMAGES; i++) {
            images[i] = new Evening();
        }
        imageKept = new boolean[IMAGES];
        imageSeeds = new int[IMAGES];
        placing = new Placing();
        tally = new int[MOST_SITTERS];
    }

    // ---- the capital

    public int feed(int letter) {
        if (letter < 0 || letter > GREATEST_LETTER) {
            return OUTSIDE;
        }
        if (reader.length >= MOST_LETTERS) {
            return FULL;
        }
        reader.add(letter);
        return reader.length;
    }

    public int capital() {
        reader.read();
        reader.length = 0;
        if (reader.faultKind != 0) {
            return FAULT_ANSWER - reader.faultKind;
        }
        city.takeFrom(reader.found);
        now.begin(city);
        past.forget();
        for (int i = 0; i < IMAGES; i++) {
            imageKept[i] = false;
        }
        forgetToldOf();
        return city.sitters;
    }

    public int fault() {
        return reader.faultAt;
    }

    public int told(int what) {
        switch (what) {
            case 0: return city.gnats;
            case 1: return city.sitters;
            case 2: return city.windows;
            case 3: return city.critics;
            case 4: return reader.length;
            case 5: return now.dusks;
            case 6: return now.blowing + GREATEST_WIND;
            case 7: return now.batted;
            case 8: return now.eyes;
            case 9: return now.raining ? 1 : 0;
            case 10: return now.smoking;
            case 11: return cloudNow();
            case 12: return now.albumSize;
            case 13: return toldOf;
            case 14: return sittersThatFit();
            case 15: return past.size;
            default: return OUTSIDE;
        }
    }

    public int sitter(int s, int what) {
        if (!isSitter(s)) {
            return UNKNOWN;
        }
        switch (what) {
            case 0: return city.outlines[s];
            case 1: return now.windowOf(s);
            case 2: return now.timesInAlbum(s);
            default: return OUTSIDE;
        }
    }

    public int window(int w, int what) {
        if (!isWindow(w)) {
            return UNKNOWN;
        }
        switch (what) {
            case 0: return now.lamps[w];
            case 1: return now.standing[w];
            case 2: return drawnAt(w);
            case 3: return drawnAt(w) == 0 ? NONE : mostLike(drawnAt(w), ALL_DOTS);
            default: return OUTSIDE;
        }
    }

    public int album(int i, int what) {
        if (what < 0 || what > 2) {
            return OUTSIDE;
        }
        if (i < 0 || i >= now.albumSize) {
            return NONE;
        }
        int place = now.albumPlace(i);
        switch (what) {
            case 0: return now.albumWindows[place];
            case 1: return now.albumSitters[place];
            default: return now.albumDots[place];
        }
    }

    public int glass(int g) {
        return isGlass(g) ? now.glasses[g] : UNKNOWN;
    }

    // ---- what is done

    public int stand(int s, int w) {
        if (!isSitter(s) || !isWindow(w)) {
            return UNKNOWN;
        }
        if (now.standing[w] != NONE) {
            return NOT;
        }
        past.remember(now);
        int before = now.windowOf(s);
        now.moveTo(s, w);
        return before;
    }

    public int go(int s) {
        if (!isSitter(s)) {
            return UNKNOWN;
        }
        int before = now.windowOf(s);
        if (!isWindow(before)) {
            return NOT;
        }
        past.remember(now);
        now.standing[before] = NONE;
        return before;
    }

    public int lamp(int w, int x) {
        if (!isWindow(w)) {
            return UNKNOWN;
        }
        if (x < 0 || x > GREATEST_LAMP) {
            return OUTSIDE;
        }
        past.remember(now);
        int before = now.lamps[w];
        now.lamps[w] = x;
        return before;
    }

    public int wind(int n) {
        if (n < -GREATEST_WIND || n > GREATEST_WIND) {
            return OUTSIDE;
        }
        if (!city.isTold) {
            return NOT;
        }
        past.remember(now);
        int before = now.blowing;
        now.blowing = n;
        return before + GREATEST_WIND;
    }

    public int bats(int set) {
        if (set < 0 || set > ALL_COLUMNS) {
            return OUTSIDE;
        }
        if (!city.isTold) {
            return NOT;
        }
        past.remember(now);
        int before = now.batted;
        now.batted = set;
        return before;
    }

    public int eye(int dot) {
        if (!isDot(dot)) {
            return OUTSIDE;
        }
        if (!city.isTold) {
            return NOT;
        }
        past.remember(now);
        now.eyes |= 1 << dot;
        return now.eyes;
    }

    public int rain(boolean is) {
        if (!city.isTold) {
            return NOT;
        }
        past.remember(now);
        int before = now.raining ? 1 : 0;
        now.raining = is;
        return before;
    }

    public int smoke(int w, boolean is) {
        if (!isWindow(w)) {
            return UNKNOWN;
        }
        past.remember(now);
        int before = (now.smoking >> w) & 1;
        now.smoking = is ? now.smoking | (1 << w) : now.smoking & ~(1 << w);
        return before;
    }

    public int press(int g, int w) {
        if (!isGlass(g) || !isWindow(w)) {
            return UNKNOWN;
        }
        past.remember(now);
        int before = now.glasses[g];
        now.glasses[g] = drawnAt(w);
        return before;
    }

    public int dusk(int n) {
        int refusal = refusalOfDusks(n);
        if (refusal != 0) {
            return refusal;
        }
        past.remember(now);
        for (int i = 0; i < n; i++) {
            passDusk();
        }
        return now.albumSize;
    }

    public int drift(int n) {
        int refusal = refusalOfDusks(n);
        if (refusal != 0) {
            return refusal;
        }
        past.remember(now);
        for (int i = 0; i < n; i++) {
            happenByDraw();
            passDusk();
        }
        return now.albumSize;
    }

    public int undo() {
        if (past.size < 1) {
            return NOT;
        }
        past.recall(now);
        return past.size;
    }

    // ---- tried; a SET of DOTS is 0 to 1073741823

    public int like(int s, int set) {
        if (!isSitter(s)) {
            return UNKNOWN;
        }
        if (!isSetOfDots(set)) {
            return OUTSIDE;
        }
        return likeness(city.outlines[s], set);
    }

    public int seenAs(int set) {
        return isSetOfDots(set) ? mostLike(set, ALL_DOTS) : OUTSIDE;
    }

    public int bestLamp(int w, int s, int what) {
        if (!isWindow(w) || !isSitter(s)) {
            return UNKNOWN;
        }
        if (what < 0 || what > 1) {
            return OUTSIDE;
        }
        int best = NONE;
        int most = -1;
        for (int x = 0; x <= GREATEST_LAMP; x++) {
            int much = likeness(city.outlines[s], drawnBy(city.outlines[s], x));
            if (much > most) {
                most = much;
                best = x;
            }
        }
        return what == 0 ? best : most;
    }

    public int who(int set, int what) {
        if (!isSetOfDots(set) || what < 0 || what > 2) {
            return OUTSIDE;
        }
        int count = 0;
        int sitters = 0;
        int first = NONE;
        for (int s = 0; s < city.sitters; s++) {
            for (int by = LEAST_SHIFT; by <= GREATEST_SHIFT; by++) {
                if (shifted(city.outlines[s], by) == set) {
                    if (count == 0) {
                        first = 100 * s + by - LEAST_SHIFT;
                    }
                    count++;
                    sitters |= 1 << s;
                }
            }
        }
        return what == 0 ? count : what == 1 ? sitters : first;
    }

    public int parted(int set, int what) {
        if (!isSetOfDots(set) || what < 0 || what > 1) {
            return OUTSIDE;
        }
        int count = 0;
        int first = NONE;
        for (int s = 0; s < city.sitters; s++) {
            for (int q = s + 1; q < city.sitters; q++) {
                for (int shifts = 0; shifts < COLUMNS * COLUMNS; shifts++) {
                    int by = shifts / COLUMNS;
                    int other = shifts % COLUMNS;
                    if ((shifted(city.outlines[s], by) | shifted(city.outlines[q], other)) == set) {
                        if (count == 0) {
                            first = 1000 * s + 100 * q + 10 * by + other;
                        }
                        count++;
                    }
                }
            }
        }
        return what == 0 ? count : first;
    }

    public int places(int w) {
        if (w != NONE && !isWindow(w)) {
            return UNKNOWN;
        }
        placing.begin(city);
        for (int at = 0; at < city.windows; at++) {
            for (int s = 0; s < city.sitters; s++) {
                placing.drawn[at * MOST_SITTERS + s] = drawnBy(city.outlines[s], now.lamps[at]);
            }
        }
        placeFrom(placing, 0, 0, 0, 0);
        return w == NONE ? placing.most : placing.best[w];
    }

    public int apart(int s, int q, int what) {
        if (!isSitter(s) || !isSitter(q) || s == q) {
            return UNKNOWN;
        }
        int unlike = city.outlines[s] ^ city.outlines[q];
        switch (what) {
            case 0: return unlike;
            case 1: return Integer.bitCount(unlike);
            case 2: return city.outlines[s] & city.outlines[q];
            default: return OUTSIDE;
        }
    }

    public int turned(int set, int what) {
        if (!isSetOfDots(set) || what < 0 || what > 1) {
            return OUTSIDE;
        }
        return what == 0 ? holesOf(set) : mirrorOf(set);
    }

    public int votes(int set, int s) {
        if (s != NONE && !isSitter(s)) {
            return UNKNOWN;
        }
        if (!isSetOfDots(set)) {
            return OUTSIDE;
        }
        countVotes(set);
        return s == NONE ? elected() : tally[s];
    }

    public int clear(int n, int q) {
        if (n < 0 || n > MOST_DUSKS_AT_ONCE || q < 0 || q > HUNDRED) {
            return OUTSIDE;
        }
        long odds = BILLION;
        for (int i = 0; i < n; i++) {
            odds = odds * q / HUNDRED;
        }
        return (int) odds;
    }

    // ---- what is told of

    public int tellOf(int dot, boolean is) {
        if (!isDot(dot)) {
            return OUTSIDE;
        }
        if (toldOf >= MOST_TOLD_OF) {
            return FULL;
        }
        if (is) {
            toldDrawn |= 1 << dot;
        } else {
            toldMissing |= 1 << dot;
        }
        toldOf++;
        return toldOf;
    }

    public int ask() {
        int pairs = pairsThatFit(0);
        int best = NONE;
        int least = pairs;
        for (int dot = 0; dot < DOTS; dot++) {
            int drawn = pairsThatFit(1 << dot);
            int greatest = Math.max(drawn, pairs - drawn);
            if (greatest < least) {
                least = greatest;
                best = dot;
            }
        }
        return best;
    }

    public int tear() {
        int before = toldOf;
        forgetToldOf();
        return before;
    }

    // ---- draws, images

    public int seed(int v) {
        if (v < 0) {
            return OUTSIDE;
        }
        int before = seedNow;
        seedNow = v;
        return before;
    }

    public int keep(int i) {
        if (!isImage(i)) {
            return UNKNOWN;
        }
        Evening.copy(now, images[i]);
        imageSeeds[i] = seedNow;
        imageKept[i] = true;
        past.forget();
        return 1;
    }

    public int goBack(int i) {
        if (!isImage(i)) {
            return UNKNOWN;
        }
        if (!imageKept[i]) {
            return NOT;
        }
        Evening.copy(images[i], now);
        seedNow = imageSeeds[i];
        past.forget();
        return 1;
    }

    // ---- what there is

    private boolean isSitter(int s) {
        return s >= 0 && s < city.sitters;
    }

    private boolean isWindow(int w) {
        return w >= 0 && w < city.windows;
    }

    private static boolean isGlass(int g) {
        return g >= 0 && g < GLASSES;
    }

    private static boolean isImage(int i) {
        return i >= 0 && i < IMAGES;
    }

    private static boolean isDot(int dot) {
        return dot >= 0 && dot < DOTS;
    }

    private static boolean isSetOfDots(int set) {
        return set >= 0 && set <= ALL_DOTS;
    }

    /** 0: n dusks may pass. */
    private int refusalOfDusks(int n) {
        if (n < 1 || n > MOST_DUSKS_AT_ONCE) {
            return OUTSIDE;
        }
        if (!city.isTold) {
            return NOT;
        }
        return now.dusks > LATEST_DUSK ? FULL : 0;
    }

    // ---- dots

    /** Dots that come beyond the air's columns are lost. */
    private static int shifted(int dots, int by) {
        int moved = 0;
        for (int row = 0; row < ROWS; row++) {
            int columns = (dots >> (COLUMNS * row)) & ALL_COLUMNS;
            int further = by < 0 ? columns >> -by : (columns << by) & ALL_COLUMNS;
            moved |= further << (COLUMNS * row);
        }
        return moved;
    }

    private static int lowestOf(int dots, int most) {
        int kept = 0;
        int count = 0;
        for (int dot = 0; dot < DOTS && count < most; dot++) {
            if (((dots >> dot) & 1) == 1) {
                kept |= 1 << dot;
                count++;
            }
        }
        return kept;
    }

    private static int likeness(int outline, int set) {
        return DOTS - Integer.bitCount(outline ^ set);
    }

    /** Whether it rains or there is smoke is left to drawnAt(): what is tried goes without. */
    private int drawnBy(int outline, int lampAt) {
        int come = shifted(outline, lampAt + now.blowing);
        int left = come & ~(now.batted * EVERY_ROW) & ~now.eyes;
        return lowestOf(left, city.gnats);
    }

    private int drawnAt(int w) {
        int s = now.standing[w];
        if (!isSitter(s) || now.raining || ((now.smoking >> w) & 1) == 1) {
            return 0;
        }
        return drawnBy(city.outlines[s], now.lamps[w]);
    }

    private int cloudNow() {
        int cloud = 0;
        for (int w = 0; w < city.windows; w++) {
            cloud |= drawnAt(w);
        }
        return cloud;
    }

    /** The sitter who differs least from a set in the dots that are looked at. */
    private int mostLike(int set, int lookedAt) {
        int best = NONE;
        int fewest = DOTS + 1;
        for (int s = 0; s < city.sitters; s++) {
            int unlike = Integer.bitCount((city.outlines[s] ^ set) & lookedAt);
            if (unlike < fewest) {
                fewest = unlike;
                best = s;
            }
        }
        return best;
    }

    private static int holesOf(int set) {
        int holes = 0;
        for (int dot = 0; dot < DOTS; dot++) {
            int near = neighboursOf(dot);
            if (((set >> dot) & 1) == 0 && (set & near) == near) {
                holes |= 1 << dot;
            }
        }
        return holes;
    }

    private static int neighboursOf(int dot) {
        int column = dot % COLUMNS;
        int near = 0;
        if (column > 0) {
            near |= 1 << (dot - 1);
        }
        if (column < COLUMNS - 1) {
            near |= 1 << (dot + 1);
        }
        if (dot >= COLUMNS) {
            near |= 1 << (dot - COLUMNS);
        }
        if (dot + COLUMNS < DOTS) {
            near |= 1 << (dot + COLUMNS);
        }
        return near;
    }

    private static int mirrorOf(int set) {
        int mirrored = 0;
        for (int dot = 0; dot < DOTS; dot++) {
            if (((set >> dot) & 1) == 1) {
                int column = dot % COLUMNS;
                mirrored |= 1 << (dot - column + COLUMNS - 1 - column);
            }
        }
        return mirrored;
    }

    // ---- dusks

    private void passDusk() {
        for (int w = 0; w < city.windows; w++) {
            int dots = drawnAt(w);
            if (dots != 0) {
                now.keepInAlbum(w, now.standing[w], dots);
            }
        }
        now.endDusk();
    }

    private void happenByDraw() {
        switch (nextDraw(6)) {
            case 0:
                now.blowing = nextDraw(2 * GREATEST_WIND + 1) - GREATEST_WIND;
                break;
            case 1:
                now.batted = nextDraw(ALL_COLUMNS + 1);
                break;
            case 2:
                now.eyes |= 1 << nextDraw(DOTS);
                break;
            case 3:
                now.raining = true;
                break;
            case 4:
                standByDraw();
                break;
            default:
                break;
        }
    }

    private void standByDraw() {
        if (city.sitters < 1 || city.windows < 1) {
            return;
        }
        int s = nextDraw(city.sitters);
        int w = nextDraw(city.windows);
        if (isWindow(w) && now.standing[w] == NONE) {
            now.moveTo(s, w);
        }
    }

    private int nextDraw(int n) {
        // int arithmetic wraps by 2 to the 32, so what is left over by 2 to the 31 is its lower bits
        seedNow = (seedNow * 1103515245 + 12345) & GREATEST_SEED;
        return n < 1 ? 0 : (seedNow / 65536) % n;
    }

    // ---- places

    /**
     * Goes through the ways to fill the windows from this one on, the first way first, so a later one
     * is taken only if it fills more. Goes no deeper than there are windows.
     */
    private static void placeFrom(Placing p, int w, int cloud, int taken, int count) {
        if (count + p.windows - w <= p.most) {
            return;
        }
        if (w >= p.windows || w >= MOST_WINDOWS) {
            p.takeChosen(count);
            return;
        }
        for (int s = 0; s < p.sitters; s++) {
            int dots = p.drawn[w * MOST_SITTERS + s];
            if (((taken >> s) & 1) == 0 && dots != 0 && (dots & cloud) == 0) {
                p.chosen[w] = s;
                placeFrom(p, w + 1, cloud | dots, taken | (1 << s), count + 1);
            }
        }
        p.chosen[w] = NONE;
        placeFrom(p, w + 1, cloud, taken, count);
    }

    // ---- critics

    private void countVotes(int set) {
        for (int s = 0; s < MOST_SITTERS; s++) {
            tally[s] = 0;
        }
        for (int c = 0; c < city.critics; c++) {
            int s = mostLike(set, city.views[c] * EVERY_ROW);
            if (isSitter(s)) {
                tally[s]++;
            }
        }
    }

    private int elected() {
        int best = NONE;
        int most = 0;
        for (int s = 0; s < city.sitters; s++) {
            if (tally[s] > most) {
                most = tally[s];
                best = s;
            }
        }
        return best;
    }

    // ---- what is told of

    private void forgetToldOf() {
        toldOf = 0;
        toldDrawn = 0;
        toldMissing = 0;
    }

    /** Told of one come to the air without wind, bats, eyes, and however many gnats it takes. */
    private boolean fits(int s, int lampAt, int alsoDrawn) {
        int dots = shifted(city.outlines[s], lampAt);
        int due = toldDrawn | alsoDrawn;
        return (dots & due) == due && (dots & toldMissing) == 0;
    }

    private int pairsThatFit(int alsoDrawn) {
        int pairs = 0;
        for (int s = 0; s < city.sitters; s++) {
            for (int x = 0; x <= GREATEST_LAMP; x++) {
                if (fits(s, x, alsoDrawn)) {
                    pairs++;
                }
            }
        }
        return pairs;
    }

    private int sittersThatFit() {
        int sitters = 0;
        for (int s = 0; s < city.sitters; s++) {
            for (int x = 0; x <= GREATEST_LAMP; x++) {
                if (fits(s, x, 0)) {
                    sitters |= 1 << s;
                }
            }
        }
        return sitters;
    }

    /** What a text tells. */
    private static final class Capital {
        private boolean isTold;
        private int gnats;
        private int sitters;
        private int windows;
        private int critics;
        private final int[] outlines = new int[MOST_SITTERS];
        private final int[] firstLamps = new int[MOST_WINDOWS];
        private final int[] views = new int[MOST_CRITICS];

        private void empty() {
            isTold = false;
            gnats = 0;
            sitters = 0;
            windows = 0;
            critics = 0;
        }

        private void takeFrom(Capital other) {
            isTold = other.isTold;
            gnats = other.gnats;
            sitters = other.sitters;
            windows = other.windows;
            critics = other.critics;
            System.arraycopy(other.outlines, 0, outlines, 0, MOST_SITTERS);
            System.arraycopy(other.firstLamps, 0, firstLamps, 0, MOST_WINDOWS);
            System.arraycopy(other.views, 0, views, 0, MOST_CRITICS);
        }
    }

    /** Reads the text; what it finds is a capital of its own, so that a fault leaves the city as it was. */
    private static final class Reader {
        private final int[] letters = new int[MOST_LETTERS];
        private final Capital found = new Capital();
        private int length;
        private int at;
        private int faultKind;
        private int faultAt = NONE;

        private void add(int letter) {
            if (length >= 0 && length < MOST_LETTERS) {
                letters[length] = letter;
                length++;
            }
        }

        private void read() {
            found.empty();
            at = 0;
            faultKind = 0;
            faultAt = NONE;
            skipBlanks();
            for (int i = 0; i < MOST_LETTERS && at < length && faultKind == 0; i++) {
                readClause();
                skipBlanks();
            }
        }

        private void readClause() {
            int word = letterHere();
            int kind = faultOfWord(word);
            if (kind != 0) {
                blame(kind, at);
                return;
            }
            at++;
            if (word == 'g') {
                found.isTold = true;
                found.gnats = readNumber(1, DOTS);
            } else if (word == 's') {
                readSitter();
            } else if (word == 'w' && found.windows < MOST_WINDOWS) {
                found.firstLamps[found.windows] = readNumber(0, GREATEST_LAMP);
                found.windows++;
            } else if (word == 'c' && found.critics < MOST_CRITICS) {
                found.views[found.critics] = readNumber(1, ALL_COLUMNS);
                found.critics++;
            }
            readSign(';');
        }

        private int faultOfWord(int word) {
            if (!found.isTold) {
                return word == 'g' ? 0 : MISPLACED;
            }
            switch (word) {
                case 'g': return TOO_MANY;
                case 's': return found.sitters < MOST_SITTERS ? 0 : TOO_MANY;
                case 'w': return found.windows < MOST_WINDOWS ? 0 : TOO_MANY;
                case 'c': return found.critics < MOST_CRITICS ? 0 : TOO_MANY;
                default: return MISPLACED;
            }
        }

        private void readSitter() {
            int outline = 0;
            for (int row = 0; row < ROWS; row++) {
                if (row > 0) {
                    readSign(',');
                }
                outline |= readNumber(0, ALL_COLUMNS) << (COLUMNS * row);
            }
            if (found.sitters < MOST_SITTERS) {
                found.outlines[found.sitters] = outline;
                found.sitters++;
            }
        }

        /** 0, if there is a fault. */
        private int readNumber(int least, int most) {
            if (faultKind != 0) {
                return 0;
            }
            skipBlanks();
            int first = at;
            int value = 0;
            for (int i = 0; i < MOST_LETTERS && isFigure(letterHere()); i++) {
                if (i < MOST_FIGURES) {
                    value = 10 * value + letterHere() - '0';
                }
                at++;
            }
            if (at == first) {
                blame(MISPLACED, at);
                return 0;
            }
            if (at - first > MOST_FIGURES || value < least || value > most) {
                blame(BAD_NUMBER, first);
                return 0;
            }
            return value;
        }

        private void readSign(int sign) {
            if (faultKind != 0) {
                return;
            }
            skipBlanks();
            if (letterHere() == sign) {
                at++;
            } else {
                blame(MISPLACED, at);
            }
        }

        private void skipBlanks() {
            for (int i = 0; i < MOST_LETTERS && letterHere() == ' '; i++) {
                at++;
            }
        }

        /** NONE at the text's end. */
        private int letterHere() {
            return at >= 0 && at < length && at < MOST_LETTERS ? letters[at] : NONE;
        }

        private static boolean isFigure(int letter) {
            return letter >= '0' && letter <= '9';
        }

        private void blame(int kind, int where) {
            faultKind = kind;
            faultAt = where;
        }
    }

    /** All that dusks and doings change, and undoing brings back. */
    private static final class Evening {
        private int blowing;
        private int batted;
        private int eyes;
        private boolean raining;
        private int smoking;
        private int dusks;
        private int albumSize;
        /** Where the next entry goes: the album is a ring. */
        private int albumNext;
        private final int[] lamps = new int[MOST_WINDOWS];
        private final int[] standing = new int[MOST_WINDOWS];
        private final int[] glasses = new int[GLASSES];
        private final int[] albumWindows = new int[ALBUM_PLACES];
        private final int[] albumSitters = new int[ALBUM_PLACES];
        private final int[] albumDots = new int[ALBUM_PLACES];

        private Evening() {
            for (int w = 0; w < MOST_WINDOWS; w++) {
                standing[w] = NONE;
            }
        }

        private void begin(Capital city) {
            blowing = 0;
            batted = 0;
            eyes = 0;
            raining = false;
            smoking = 0;
            dusks = 0;
            albumSize = 0;
            albumNext = 0;
            for (int w = 0; w < MOST_WINDOWS; w++) {
                lamps[w] = city.firstLamps[w];
                standing[w] = NONE;
            }
            for (int g = 0; g < GLASSES; g++) {
                glasses[g] = 0;
            }
        }

        private static void copy(Evening from, Evening to) {
            if (from == null || to == null) {
                return;
            }
            to.blowing = from.blowing;
            to.batted = from.batted;
            to.eyes = from.eyes;
            to.raining = from.raining;
            to.smoking = from.smoking;
            to.dusks = from.dusks;
            to.albumSize = from.albumSize;
            to.albumNext = from.albumNext;
            System.arraycopy(from.lamps, 0, to.lamps, 0, MOST_WINDOWS);
            System.arraycopy(from.standing, 0, to.standing, 0, MOST_WINDOWS);
            System.arraycopy(from.glasses, 0, to.glasses, 0, GLASSES);
            System.arraycopy(from.albumWindows, 0, to.albumWindows, 0, ALBUM_PLACES);
            System.arraycopy(from.albumSitters, 0, to.albumSitters, 0, ALBUM_PLACES);
            System.arraycopy(from.albumDots, 0, to.albumDots, 0, ALBUM_PLACES);
        }

        private int windowOf(int s) {
            for (int w = 0; w < MOST_WINDOWS; w++) {
                if (standing[w] == s) {
                    return w;
                }
            }
            return NONE;
        }

        private void moveTo(int s, int w) {
            for (int from = 0; from < MOST_WINDOWS; from++) {
                if (standing[from] == s) {
                    standing[from] = NONE;
                }
            }
            if (w >= 0 && w < MOST_WINDOWS) {
                standing[w] = s;
            }
        }

        private void keepInAlbum(int w, int s, int dots) {
            if (albumNext < 0 || albumNext >= ALBUM_PLACES) {
                return;
            }
            albumWindows[albumNext] = w;
            albumSitters[albumNext] = s;
            albumDots[albumNext] = dots;
            albumNext = (albumNext + 1) % ALBUM_PLACES;
            albumSize = Math.min(albumSize + 1, ALBUM_PLACES);
        }

        /** Of the entry that i came after. */
        private int albumPlace(int i) {
            return Math.floorMod(albumNext - 1 - i, ALBUM_PLACES);
        }

        private int timesInAlbum(int s) {
            int times = 0;
            for (int i = 0; i < albumSize; i++) {
                if (albumSitters[albumPlace(i)] == s) {
                    times++;
                }
            }
            return times;
        }

        private void endDusk() {
            if (blowing > 0) {
                blowing--;
            } else if (blowing < 0) {
                blowing++;
            }
            batted = 0;
            raining = false;
            smoking = 0;
            if (dusks % 3 == 2) {
                eyes = 0;
            }
            dusks++;
        }
    }

    /** What can be undone: a ring, so that the oldest is lost to the newest. */
    private static final class Past {
        private final Evening[] evenings = new Evening[MOST_UNDONE];
        private int size;
        private int next;

        private Past() {
            for (int i = 0; i < MOST_UNDONE; i++) {
                evenings[i] = new Evening();
            }
        }

        private void forget() {
            size = 0;
            next = 0;
        }

        private void remember(Evening evening) {
            if (next < 0 || next >= MOST_UNDONE) {
                return;
            }
            Evening.copy(evening, evenings[next]);
            next = (next + 1) % MOST_UNDONE;
            size = Math.min(size + 1, MOST_UNDONE);
        }

        private void recall(Evening evening) {
            next = Math.floorMod(next - 1, MOST_UNDONE);
            size = Math.max(size - 1, 0);
            Evening.copy(evenings[next], evening);
        }
    }

    /** What a search for places works with. */
    private static final class Placing {
        private int sitters;
        private int windows;
        private int most;
        private final int[] drawn = new int[MOST_WINDOWS * MOST_SITTERS];
        private final int[] chosen = new int[MOST_WINDOWS];
        private final int[] best = new int[MOST_WINDOWS];

        private void begin(Capital city) {
            sitters = city.sitters;
            windows = city.windows;
            most = 0;
            for (int w = 0; w < MOST_WINDOWS; w++) {
                chosen[w] = NONE;
                best[w] = NONE;
            }
        }

        private void takeChosen(int count) {
            most = count;
            for (int w = 0; w < windows; w++) {
                best[w] = chosen[w];
            }
        }
    }
}
