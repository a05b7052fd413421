import java.util.function.Supplier;
import java.util.function.ToIntFunction;

/** Boundary cases of draws, of what is undone, of images: promises 20, 21, 35 to 37, a test for each sentence. */
public final class BoundaryKeptTest {
    private static final int NONE = Scenes.NONE;
    private static final int UNKNOWN = Scenes.UNKNOWN;
    private static final int OUTSIDE = Scenes.OUTSIDE;
    private static final int NOT = Scenes.NOT;
    private static final int FULL = Scenes.FULL;
    private static final int ALL = Scenes.ALL;
    private static final int LEAST = Scenes.LEAST;
    private static final int MOST = Scenes.MOST;

    private static final Checks CHECKS = new Checks();

    public static void main(String[] args) throws ReflectiveOperationException {
        CHECKS.runAll(BoundaryKeptTest.class);
    }

    private static void due(String call, int got, int want) {
        CHECKS.due(call, got, want);
    }

    private static void refused(String call, Supplier<GnatPortraits> scene, ToIntFunction<GnatPortraits> made, int want) {
        Scenes.changesNothing(CHECKS, call, scene, made, want);
    }

    // ---- draws, as the document tells them

    private static int next(int seed) {
        return (int) ((seed * 1103515245L + 12345L) % 2147483648L);
    }

    private static int draw(int seed, int n) {
        return seed / 65536 % n;
    }

    /** A seed whose first draw of 6 is this, and whose next draw, of n, is that. */
    private static int seedFor(int first, int n, int second) {
        for (int seed = 0; seed < 1000000; seed++) {
            int one = next(seed);
            if (draw(one, 6) == first && draw(next(one), n) == second) {
                return seed;
            }
        }
        throw new IllegalStateException("no seed draws " + first + ", " + second);
    }

    /** A seed that draws 4, then this sitter of six, this window of five. */
    private static int seedToStand(int sitter, int window) {
        for (int seed = 0; seed < 1000000; seed++) {
            int two = next(next(seed));
            if (draw(next(seed), 6) == 4 && draw(two, 6) == sitter && draw(next(two), 5) == window) {
                return seed;
            }
        }
        throw new IllegalStateException("no seed draws " + sitter + ", " + window);
    }

    /** One of all dots behind whom a dusk by draws has been. */
    private static GnatPortraits drifted(int seed) {
        GnatPortraits g = Scenes.told("g30;s63,63,63,63,63;w0;");
        g.stand(0, 0);
        g.seed(seed);
        g.drift(1);
        return g;
    }

    private static int inEveryRow(String row) {
        return Scenes.dots(row, row, row, row, row);
    }

    // ---- promise 20

    static void promise20DusksAre1To60() {
        GnatPortraits g = Scenes.told(Scenes.CITY);
        g.drift(1);
        due("1", g.told(5), 1);
        g.drift(60);
        due("60", g.told(5), 61);
        for (int n : new int[] {LEAST, -1, 0, 61, MOST}) {
            refused("drift(" + n + ")", Scenes::busy, x -> x.drift(n), OUTSIDE);
        }
    }

    static void promise20NotWithoutACapital() {
        refused("drift(1)", Scenes::bare, g -> g.drift(1), NOT);
        refused("drift(60)", Scenes::bare, g -> g.drift(60), NOT);
        refused("outside comes first", Scenes::bare, g -> g.drift(0), OUTSIDE);
        refused("outside comes first", Scenes::bare, g -> g.drift(61), OUTSIDE);
    }

    static void promise20FullAbove9000() {
        GnatPortraits g = Scenes.told("g1;");
        for (int i = 0; i < 150; i++) {
            g.drift(60);
        }
        due("dusks", g.told(5), 9000);
        due("60 at 9000", g.drift(60), 0);
        due("dusks then", g.told(5), 9060);
        due("full", g.drift(1), FULL);
        due("undone", g.undo(), 15);
        due("1 at 9000", g.drift(1), 0);
        due("full at 9001", g.drift(1), FULL);
        due("of the other kind too", g.dusk(1), FULL);
        refused("drift(1) at 9001", Scenes::late, x -> x.drift(1), FULL);
        refused("drift(60) at 9001", Scenes::late, x -> x.drift(60), FULL);
        refused("outside comes first", Scenes::late, x -> x.drift(0), OUTSIDE);
        refused("outside comes first", Scenes::late, x -> x.drift(61), OUTSIDE);
    }

    static void promise20ManyAreAsOneByOne() {
        GnatPortraits many = Scenes.busy();
        GnatPortraits single = Scenes.busy();
        many.drift(60);
        for (int i = 0; i < 60; i++) {
            single.drift(1);
        }
        many.keep(0);
        single.keep(0);
        CHECKS.same("60 and 60 times 1", Scenes.all(many), Scenes.all(single));
    }

    static void promise20WindIsADrawOf7Less3() {
        String[] rows = {"XXX...", "XXXX..", "XXXXX.", "XXXXXX", ".XXXXX", "..XXXX", "...XXX"};
        int[] then = {-2, -1, 0, 0, 0, 1, 2};
        for (int drawn = 0; drawn < 7; drawn++) {
            int seed = seedFor(0, 7, drawn);
            GnatPortraits g = drifted(seed);
            due("wind by draw " + drawn, g.album(0, 2), inEveryRow(rows[drawn]));
            due("wind behind draw " + drawn, g.told(6), then[drawn] + 3);
            due("two draws", g.seed(0), next(next(seed)));
        }
    }

    static void promise20BatsAreADrawOf64() {
        for (int drawn = 0; drawn < 64; drawn++) {
            StringBuilder row = new StringBuilder();
            for (int column = 0; column < 6; column++) {
                row.append((drawn >> column & 1) == 1 ? '.' : 'X');
            }
            int seed = seedFor(1, 64, drawn);
            GnatPortraits g = drifted(seed);
            due("bats by draw " + drawn, g.album(0, 2), drawn == 63 ? NONE : inEveryRow(row.toString()));
            due("bats are gone", g.told(7), 0);
            due("two draws", g.seed(0), next(next(seed)));
        }
    }

    static void promise20AnEyeIsADrawOf30() {
        for (int drawn = 0; drawn < 30; drawn++) {
            int seed = seedFor(2, 30, drawn);
            GnatPortraits g = drifted(seed);
            due("eye by draw " + drawn, g.told(8), 1 << drawn);
            due("drawn without", g.album(0, 2), ALL ^ (1 << drawn));
            due("two draws", g.seed(0), next(next(seed)));
        }
    }

    static void promise20AnEyeComesToThoseThatAreTaken() {
        GnatPortraits g = Scenes.told("g1;");
        g.eye(0);
        g.eye(7);
        g.seed(seedFor(2, 30, 29));
        g.drift(1);
        due("three", g.told(8), 1 + (1 << 7) + (1 << 29));
        g.seed(seedFor(2, 30, 7));
        g.drift(1);
        due("one that is taken", g.told(8), 1 + (1 << 7) + (1 << 29));
    }

    static void promise20RainAndNothing() {
        int rain = seedFor(3, 1, 0);
        GnatPortraits wet = drifted(rain);
        due("rain", wet.told(12), 0);
        due("it has ended", wet.told(9), 0);
        due("rain: one draw", wet.seed(0), next(rain));
        int nothing = seedFor(5, 1, 0);
        GnatPortraits same = drifted(nothing);
        due("nothing", same.album(0, 2), ALL);
        due("nothing: one draw", same.seed(0), next(nothing));
    }

    static void promise20OneStandsByDraws() {
        for (int sitter : new int[] {0, 3, 5}) {
            for (int window : new int[] {0, 2, 4}) {
                int seed = seedToStand(sitter, window);
                GnatPortraits g = Scenes.told(Scenes.CROWD);
                g.seed(seed);
                g.drift(1);
                due("stands", g.window(window, 1), sitter);
                due("three draws", g.seed(seed), next(next(next(seed))));
                g.drift(1);
                due("stands there himself", g.window(window, 1), sitter);
                due("drawn for all the same", g.seed(seed), next(next(next(seed))));
                g.go(sitter);
                g.stand(1, window);
                g.drift(1);
                due("another stands there", g.window(window, 1), 1);
                due("he stands nowhere", g.sitter(sitter, 1), NONE);
                g.go(1);
                g.stand(sitter, 1);
                g.seed(seed);
                g.drift(1);
                due("comes from where he is", g.window(1, 1), NONE);
                due("he is there", g.sitter(sitter, 1), window);
            }
        }
    }

    static void promise20TheOnlySitterStandsAtTheOnlyWindow() {
        int seed = seedFor(4, 1, 0);
        GnatPortraits g = Scenes.told(Scenes.SMALL);
        g.seed(seed);
        due("he is drawn", g.drift(1), 1);
        due("he stands there", g.window(0, 1), 0);
        due("three draws, of one too", g.seed(0), next(next(next(seed))));
    }

    static void promise20NobodyStandsWithoutSittersOrWindows() {
        for (String text : new String[] {"g1;", "g1;w0;w1;", "g1;s1,0,0,0,0;s1,0,0,0,0;"}) {
            int seed = seedFor(4, 1, 0);
            GnatPortraits g = Scenes.told(text);
            g.seed(seed);
            due("a dusk", g.drift(1), 0);
            due("one draw alone", g.seed(0), next(seed));
        }
    }

    static void promise20TheDrawComesAheadOfTheDusk() {
        // an eye that is taken in the dusk that leaves over 2 by 3 is seen in it, and gone behind it
        GnatPortraits g = Scenes.told("g30;s63,63,63,63,63;w0;");
        g.stand(0, 0);
        g.dusk(2);
        g.seed(seedFor(2, 30, 29));
        g.drift(1);
        due("drawn without", g.album(0, 2), ALL >> 1);
        due("gone", g.told(8), 0);
    }

    // ---- promise 21

    static void promise21NoneCanBeUndoneAtFirst() {
        refused("a new one", GnatPortraits::new, g -> g.undo(), NOT);
        refused("no capital", Scenes::bare, g -> g.undo(), NOT);
        refused("a capital", () -> Scenes.told(Scenes.CITY), g -> g.undo(), NOT);
    }

    static void promise21SixteenAtMostAreKept() {
        GnatPortraits g = Scenes.told("g1;w0;");
        for (int i = 1; i <= 16; i++) {
            g.lamp(0, i % 5 + 1);
            due("done", g.told(15), i);
        }
        for (int i = 15; i >= 0; i--) {
            due("undone", g.undo(), i);
            due("the lamp", g.window(0, 0), i == 0 ? 0 : i % 5 + 1);
        }
        due("none", g.undo(), NOT);
    }

    static void promise21OfSeventeenTheOldestIsLost() {
        GnatPortraits g = Scenes.told("g1;w0;");
        for (int i = 1; i <= 17; i++) {
            g.lamp(0, i % 5 + 1);
        }
        due("16", g.told(15), 16);
        for (int i = 15; i >= 0; i--) {
            due("undone", g.undo(), i);
        }
        due("behind the oldest", g.window(0, 0), 2);
        due("none", g.undo(), NOT);
        due("nothing has changed", g.window(0, 0), 2);
    }

    static void promise21OfFortyTheLatest16AreKept() {
        GnatPortraits g = Scenes.told("g1;");
        for (int i = 1; i <= 40; i++) {
            g.bats(i);
        }
        for (int i = 39; i >= 24; i--) {
            due("undone", g.undo(), i - 24);
            due("bats", g.told(7), i);
        }
        due("none", g.undo(), NOT);
    }

    static void promise21DoneAgainBehindUndone() {
        GnatPortraits g = Scenes.told("g1;");
        for (int round = 0; round < 20; round++) {
            g.bats(1);
            g.bats(2);
            g.bats(3);
            due("undone", g.undo(), Math.min(2 * round + 3, 16) - 1);
            due("bats", g.told(7), 2);
        }
        due("16 less one", g.told(15), 15);
    }

    static void promise21EachKindIsUndone() {
        undone("stand", g -> g.stand(2, 2));
        undone("stand from elsewhere", g -> g.stand(0, 2));
        undone("go", g -> g.go(1));
        undone("lamp", g -> g.lamp(1, 5));
        undone("wind", g -> g.wind(-3));
        undone("bats", g -> g.bats(9));
        undone("eye", g -> g.eye(29));
        undone("rain", g -> g.rain(true));
        undone("smoke", g -> g.smoke(0, true));
        undone("no smoke", g -> g.smoke(1, false));
        undone("press", g -> g.press(3, 0));
        undone("press in place", g -> g.press(2, 2));
        undone("dusk", g -> g.dusk(1));
        undone("60 dusks", g -> g.dusk(60));
        undone("three dusks", g -> g.dusk(3));
    }

    private static void undone(String call, ToIntFunction<GnatPortraits> made) {
        GnatPortraits g = Scenes.busy();
        CHECKS.holds(call + " is not refused", made.applyAsInt(g) >= NONE);
        CHECKS.holds(call + " changes something", !Scenes.seen(g).equals(Scenes.seen(Scenes.busy())));
        due(call + " can be undone", g.undo(), 5);
        CHECKS.same(call + " is undone", Scenes.seen(g), Scenes.seen(Scenes.busy()));
    }

    static void promise21WhatChangesNothingIsUndoneToo() {
        String[] names = {"wind", "bats", "eye", "rain", "smoke", "lamp"};
        GnatPortraits g = Scenes.busy();
        g.wind(2);
        g.bats(32);
        g.eye(7);
        g.rain(false);
        g.smoke(1, true);
        g.lamp(0, 1);
        for (int i = names.length; i > 0; i--) {
            due(names[i - 1], g.undo(), 4 + i);
        }
        CHECKS.same("as it was", Scenes.all(g), Scenes.all(Scenes.busy()));
    }

    static void promise21DriftIsUndoneButTheSeedStays() {
        GnatPortraits g = Scenes.busy();
        g.drift(60);
        due("undone", g.undo(), 5);
        CHECKS.same("as it was", Scenes.seen(g), Scenes.seen(Scenes.busy()));
        GnatPortraits other = Scenes.busy();
        other.drift(60);
        int seed = other.seed(0);
        CHECKS.holds("the seed has gone on", seed != 123);
        due("the seed stays", g.seed(0), seed);
    }

    static void promise21WhatIsNotOfTheKindsIsNotUndone() {
        GnatPortraits g = Scenes.busy();
        g.seed(5);
        g.tellOf(9, false);
        g.feed('w');
        g.places(NONE);
        g.bestLamp(0, 0, 0);
        g.ask();
        due("as many", g.told(15), 5);
        due("the latest is smoke", g.undo(), 4);
        due("smoke", g.told(10), 0);
        due("told of stays", g.told(13), 2);
        due("the text stays", g.told(4), 15);
        due("the seed stays", g.seed(0), 5);
    }

    static void promise21AFaultInATextLeavesWhatCanBeUndone() {
        GnatPortraits g = Scenes.busy();
        g.feed('x');
        due("a fault", g.capital(), -11);
        due("still", g.undo(), 4);
        Scenes.tell(g, "g1;");
        due("a capital: none", g.undo(), NOT);
    }

    static void promise21UndoingTurnsTheFullAlbumBack() {
        GnatPortraits g = Scenes.fullAlbum();
        g.lamp(0, 2);
        g.lamp(1, 4);
        g.dusk(3);
        g.undo();
        g.undo();
        g.undo();
        CHECKS.same("as it was", Scenes.all(g), Scenes.all(Scenes.fullAlbum()));
    }

    // ---- promise 35

    static void promise35SeedsAre0ToTheMost() {
        GnatPortraits g = new GnatPortraits();
        due("at first", g.seed(MOST), 0);
        due("the most", g.seed(0), MOST);
        due("0", g.seed(7), 0);
        due("7", g.seed(7), 7);
        for (int v : new int[] {LEAST, LEAST + 1, -2, -1}) {
            refused("seed(" + v + ")", Scenes::busy, x -> x.seed(v), OUTSIDE);
            refused("seed(" + v + "), no capital", Scenes::bare, x -> x.seed(v), OUTSIDE);
        }
    }

    static void promise35ItIsLeftOverBy2ToThe31() {
        // worked out with numbers without an end: v times 1103515245, and 12345, left over by 2147483648
        int[] seeds = {0, 1, 2, 65536, 1073741823, 1073741824, 2147483646, MOST};
        for (int seed : seeds) {
            java.math.BigInteger due = java.math.BigInteger.valueOf(seed)
                .multiply(java.math.BigInteger.valueOf(1103515245)).add(java.math.BigInteger.valueOf(12345))
                .mod(java.math.BigInteger.valueOf(2147483648L));
            GnatPortraits g = Scenes.told("g1;");
            g.seed(seed);
            g.drift(1);
            int one = due.intValueExact();
            int want = draw(one, 6) < 3 ? next(one) : one;
            due("behind " + seed, g.seed(0), want);
        }
        due("by hand", next(0), 12345);
        due("by hand", next(1), 1103527590);
        due("by hand", next(MOST), 1043980748);
    }

    static void promise35TheSeedIsNoPartOfWhatIsUndone() {
        GnatPortraits g = Scenes.busy();
        g.seed(8);
        g.undo();
        due("stays", g.seed(0), 8);
        due("no more can be undone by it", g.told(15), 4);
    }

    // ---- promise 36

    static void promise36ImagesAre0And1() {
        GnatPortraits g = Scenes.busy();
        due("0", g.keep(0), 1);
        due("1", g.keep(1), 1);
        for (int i : new int[] {LEAST, -1, 2, MOST}) {
            refused("keep(" + i + ")", Scenes::busy, x -> x.keep(i), UNKNOWN);
            refused("keep(" + i + "), no capital", Scenes::bare, x -> x.keep(i), UNKNOWN);
        }
    }

    static void promise36NothingCanBeUndoneThen() {
        for (int i = 0; i < 2; i++) {
            GnatPortraits g = Scenes.sixteenDone();
            String before = Scenes.seen(g).replaceAll("16 fault", "0 fault");
            g.keep(i);
            CHECKS.same("all else is as it was", Scenes.seen(g), before);
            due("none", g.undo(), NOT);
            g.lamp(0, 3);
            due("one since", g.undo(), 0);
            due("no more", g.undo(), NOT);
        }
    }

    static void promise36AnImageIsInPlaceOfTheFormer() {
        GnatPortraits g = Scenes.told("g1;");
        g.bats(1);
        g.keep(0);
        g.bats(2);
        g.keep(1);
        g.bats(3);
        g.keep(0);
        g.bats(4);
        g.goBack(0);
        due("0", g.told(7), 3);
        g.goBack(1);
        due("1", g.told(7), 2);
    }

    static void promise36AnImageStaysWhateverIsDone() {
        GnatPortraits g = Scenes.busy();
        g.keep(0);
        g.drift(60);
        g.press(0, 0);
        g.lamp(2, 5);
        g.go(0);
        g.seed(1);
        g.keep(1);
        due("back", g.goBack(0), 1);
        String seen = Scenes.seen(g);
        GnatPortraits other = Scenes.busy();
        other.keep(0);
        CHECKS.same("as it was kept", seen, Scenes.seen(other));
        due("the seed too", g.seed(0), 123);
    }

    static void promise36WithoutACapital() {
        GnatPortraits g = Scenes.bare();
        due("kept", g.keep(1), 1);
        g.seed(4);
        due("back", g.goBack(1), 1);
        due("the seed", g.seed(0), 99);
        due("still no capital", g.wind(0), NOT);
    }

    // ---- promise 37

    static void promise37ImagesAre0And1() {
        for (int i : new int[] {LEAST, -1, 2, MOST}) {
            refused("goBack(" + i + ")", Scenes::busy, x -> x.goBack(i), UNKNOWN);
            refused("goBack(" + i + "), no capital", Scenes::bare, x -> x.goBack(i), UNKNOWN);
        }
    }

    static void promise37NotIfItWasNotKept() {
        refused("0, while 1 is kept", Scenes::busy, g -> g.goBack(0), NOT);
        refused("1, while 0 is kept", Scenes::late, g -> g.goBack(1), NOT);
        refused("no capital", Scenes::bare, g -> g.goBack(0), NOT);
        refused("no capital", Scenes::bare, g -> g.goBack(1), NOT);
    }

    static void promise37NothingCanBeUndoneThen() {
        GnatPortraits g = Scenes.sixteenDone();
        g.keep(0);
        g.lamp(0, 5);
        due("one", g.told(15), 1);
        due("back", g.goBack(0), 1);
        due("none", g.undo(), NOT);
        g.lamp(0, 5);
        due("one since", g.undo(), 0);
    }

    static void promise37AsOftenAsOneLikes() {
        GnatPortraits g = Scenes.busy();
        for (int i = 0; i < 3; i++) {
            g.drift(7);
            due("back", g.goBack(1), 1);
            due("dusks", g.told(5), 1);
            due("seed", g.seed(123), 123);
        }
    }

    static void promise37WhatIsToldOfAndTheTextStay() {
        GnatPortraits g = Scenes.busy();
        g.tellOf(4, false);
        g.feed('w');
        due("back", g.goBack(1), 1);
        due("told of", g.told(13), 2);
        due("letters", g.told(4), 15);
        due("the fault", g.fault(), 3);
    }

    static void promise37ImagesAreGoneWithANewCapitalAlone() {
        GnatPortraits g = Scenes.busy();
        g.keep(0);
        g.feed('x');
        due("a fault", g.capital(), -11);
        due("0 is kept", g.goBack(0), 1);
        due("1 is kept", g.goBack(1), 1);
        due("an empty text", g.capital(), 0);
        due("0 is gone", g.goBack(0), NOT);
        due("1 is gone", g.goBack(1), NOT);
    }

    static void promise37DusksAbove9000GoBackToo() {
        GnatPortraits g = Scenes.told("g1;");
        g.keep(0);
        for (int i = 0; i < 151; i++) {
            g.dusk(60);
        }
        due("full", g.dusk(1), FULL);
        due("back", g.goBack(0), 1);
        due("dusks", g.told(5), 0);
        due("not full", g.dusk(60), 0);
    }
}
