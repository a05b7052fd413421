import java.util.function.Supplier;
import java.util.function.ToIntFunction;

/** Boundary cases of what is shown and done: the document's section 2 and promises 5 to 19, a test for each sentence. */
public final class BoundaryDoneTest {
    private static final int NONE = Scenes.NONE;
    private static final int UNKNOWN = Scenes.UNKNOWN;
    private static final int OUTSIDE = Scenes.OUTSIDE;
    private static final int NOT = Scenes.NOT;
    private static final int FULL = Scenes.FULL;
    private static final int ALL = Scenes.ALL;
    private static final int LEAST = Scenes.LEAST;
    private static final int MOST = Scenes.MOST;
    /** What is beyond the three sitters, windows of the busy scene. */
    private static final int[] BEYOND_THREE = {LEAST, -2, -1, 3, 4, 5, 6, MOST};

    private static final Checks CHECKS = new Checks();

    public static void main(String[] args) throws ReflectiveOperationException {
        CHECKS.runAll(BoundaryDoneTest.class);
    }

    private static void due(String call, int got, int want) {
        CHECKS.due(call, got, want);
    }

    private static void refused(String call, Supplier<GnatPortraits> scene, ToIntFunction<GnatPortraits> made, int want) {
        Scenes.changesNothing(CHECKS, call, scene, made, want);
    }

    private static GnatPortraits crowd() {
        return Scenes.told(Scenes.CROWD);
    }

    /** One of all dots at a window of this lamp, by so many gnats. */
    private static GnatPortraits whole(int gnats, int lamp) {
        GnatPortraits g = Scenes.told("g" + gnats + ";s63,63,63,63,63;w" + lamp + ";");
        g.stand(0, 0);
        return g;
    }

    private static int inEveryRow(String row) {
        return Scenes.dots(row, row, row, row, row);
    }

    // ---- promise 5

    static void promise05WhatIs0To15() {
        for (int what : new int[] {LEAST, -1, 16, MOST}) {
            refused("told(" + what + ")", Scenes::busy, g -> g.told(what), OUTSIDE);
            refused("told(" + what + "), no capital", Scenes::bare, g -> g.told(what), OUTSIDE);
        }
        due("the first", Scenes.busy().told(0), 9);
        due("the last", Scenes.busy().told(15), 5);
    }

    static void promise05TheMostOfAllThatIsTold() {
        GnatPortraits g = crowd();
        int[] due = {30, 6, 5, 6, 0};
        for (int what = 0; what < due.length; what++) {
            due("told(" + what + ")", g.told(what), due[what]);
        }
        due("letters", Scenes.longText().told(4), 240);
        due("undone", Scenes.sixteenDone().told(15), 16);
        due("told of", Scenes.toldOfSix().told(13), 6);
        due("album", Scenes.fullAlbum().told(12), 20);
        due("dusks", Scenes.late().told(5), 9001);
        due("may be all six", g.told(14), 63);
    }

    static void promise05WindIsShownFrom0To6() {
        GnatPortraits g = Scenes.told("g1;");
        due("none", g.told(6), 3);
        for (int n = -3; n <= 3; n++) {
            g.wind(n);
            due("wind " + n, g.told(6), n + 3);
        }
    }

    static void promise05SmokeOverTheFirstAndTheLastWindow() {
        GnatPortraits g = crowd();
        due("none", g.told(10), 0);
        g.smoke(4, true);
        due("the last", g.told(10), 16);
        g.smoke(0, true);
        due("the first", g.told(10), 17);
        for (int w = 1; w < 4; w++) {
            g.smoke(w, true);
        }
        due("all", g.told(10), 31);
    }

    static void promise05EyesOfAllDots() {
        GnatPortraits g = whole(30, 0);
        for (int dot = 0; dot < 30; dot++) {
            g.eye(dot);
            due("eyes to " + dot, g.told(8), MOST >> (30 - dot));
        }
        due("all", g.told(8), ALL);
        due("nothing is left", g.window(0, 2), 0);
    }

    static void promise05TheCloudOfNoneOfOneOfAll() {
        GnatPortraits g = crowd();
        due("nobody", g.told(11), 0);
        g.stand(1, 0);
        due("an empty one", g.told(11), 0);
        g.stand(5, 1);
        due("lost beyond", g.told(11), 0);
        g.stand(2, 4);
        due("the last window's", g.told(11), 32);
        g.go(1);
        g.stand(0, 0);
        due("all", g.told(11), ALL);
        g.smoke(0, true);
        due("smoke over the first", g.told(11), 32);
        g.smoke(4, true);
        due("smoke over both", g.told(11), 0);
        g.smoke(0, false);
        g.rain(true);
        due("rain", g.told(11), 0);
    }

    // ---- promise 6

    static void promise06SittersThatThereAre() {
        GnatPortraits g = crowd();
        due("the first", g.sitter(0, 0), ALL);
        due("the last", g.sitter(5, 0), 1 << 29);
        due("behind the last", g.sitter(6, 0), UNKNOWN);
        for (int s : BEYOND_THREE) {
            refused("sitter(" + s + ")", Scenes::busy, x -> x.sitter(s, 0), UNKNOWN);
        }
        refused("no capital", Scenes::bare, x -> x.sitter(0, 0), UNKNOWN);
    }

    static void promise06WhatIs0To2() {
        for (int what : new int[] {LEAST, -1, 3, MOST}) {
            refused("what " + what, Scenes::busy, g -> g.sitter(2, what), OUTSIDE);
        }
    }

    static void promise06UnknownComesAheadOfOutside() {
        refused("both", Scenes::busy, g -> g.sitter(3, 3), UNKNOWN);
        refused("both", Scenes::busy, g -> g.sitter(-1, -1), UNKNOWN);
        refused("both, no capital", Scenes::bare, g -> g.sitter(0, 3), UNKNOWN);
    }

    static void promise06TheOutlineIsAsToldWhateverIsDrawn() {
        GnatPortraits g = whole(1, 5);
        g.bats(63);
        g.eye(0);
        g.rain(true);
        due("outline", g.sitter(0, 0), ALL);
    }

    static void promise06TheFirstWindowAndTheLast() {
        GnatPortraits g = crowd();
        due("nowhere", g.sitter(5, 1), NONE);
        g.stand(5, 0);
        due("the first", g.sitter(5, 1), 0);
        g.stand(5, 4);
        due("the last", g.sitter(5, 1), 4);
        g.go(5);
        due("nowhere again", g.sitter(5, 1), NONE);
    }

    static void promise06OftenIs0To20() {
        GnatPortraits g = whole(30, 0);
        due("at first", g.sitter(0, 2), 0);
        g.dusk(19);
        due("19", g.sitter(0, 2), 19);
        g.dusk(1);
        due("20", g.sitter(0, 2), 20);
        g.dusk(1);
        due("no more", g.sitter(0, 2), 20);
    }

    static void promise06OftenFallsAsTheOldestAreLost() {
        GnatPortraits g = Scenes.told("g1;s1,0,0,0,0;s1,0,0,0,0;w0;");
        g.stand(0, 0);
        g.dusk(20);
        g.go(0);
        g.stand(1, 0);
        for (int i = 1; i <= 20; i++) {
            g.dusk(1);
            due("of the first", g.sitter(0, 2), 20 - i);
            due("of the second", g.sitter(1, 2), i);
        }
    }

    // ---- promise 7

    static void promise07WindowsThatThereAre() {
        GnatPortraits g = crowd();
        due("the first", g.window(0, 0), 0);
        due("the last", g.window(4, 0), 5);
        due("behind the last", g.window(5, 0), UNKNOWN);
        for (int w : BEYOND_THREE) {
            refused("window(" + w + ")", Scenes::busy, x -> x.window(w, 0), UNKNOWN);
        }
        refused("no capital", Scenes::bare, x -> x.window(0, 0), UNKNOWN);
    }

    static void promise07WhatIs0To3() {
        for (int what : new int[] {LEAST, -1, 4, MOST}) {
            refused("what " + what, Scenes::busy, g -> g.window(2, what), OUTSIDE);
        }
    }

    static void promise07UnknownComesAheadOfOutside() {
        refused("both", Scenes::busy, g -> g.window(3, 4), UNKNOWN);
        refused("both", Scenes::busy, g -> g.window(-1, -1), UNKNOWN);
    }

    static void promise07DotsBeyondTheColumnsAreLost() {
        String[] rows = {"XXX...", "XXXX..", "XXXXX.", "XXXXXX", ".XXXXX", "..XXXX", "...XXX", "....XX", ".....X",
            "......", "......", "......"};
        for (int lamp = 0; lamp <= 5; lamp++) {
            GnatPortraits g = whole(30, lamp);
            GnatPortraits middle = Scenes.told("g30;s0,0,63,0,0;w" + lamp + ";");
            middle.stand(0, 0);
            for (int wind = -3; wind <= 3; wind++) {
                g.wind(wind);
                middle.wind(wind);
                String row = rows[lamp + wind + 3];
                due("lamp " + lamp + ", wind " + wind, g.window(0, 2), inEveryRow(row));
                due("one row by lamp " + lamp + ", wind " + wind, middle.window(0, 2), Scenes.dots("", "", row));
            }
        }
    }

    static void promise07ADotAtTheLastColumnStaysTheNextIsLost() {
        GnatPortraits g = Scenes.told("g30;s1,0,0,0,1;s8,0,0,0,8;s4,0,0,0,4;w5;w0;w0;");
        g.stand(0, 0);
        due("column 5", g.window(0, 2), Scenes.dots(".....X", "", "", "", ".....X"));
        g.wind(1);
        due("column 6", g.window(0, 2), 0);
        g.stand(1, 1);
        g.stand(2, 2);
        g.wind(-3);
        due("column 0", g.window(1, 2), Scenes.dots("X.....", "", "", "", "X....."));
        due("column -1", g.window(2, 2), 0);
    }

    static void promise07BatsOverEachColumnAlone() {
        for (int column = 0; column < 6; column++) {
            GnatPortraits g = whole(30, 0);
            g.bats(1 << column);
            StringBuilder row = new StringBuilder("XXXXXX");
            row.setCharAt(column, '.');
            due("bats over " + column, g.window(0, 2), inEveryRow(row.toString()));
            g.bats(63 ^ (1 << column));
            due("bats beside " + column, g.window(0, 2), ALL ^ inEveryRow(row.toString()));
        }
        GnatPortraits g = whole(30, 0);
        g.bats(63);
        due("bats over all", g.window(0, 2), 0);
        g.bats(0);
        due("no bats", g.window(0, 2), ALL);
    }

    static void promise07BatsAreOverColumnsOfTheAir() {
        // not over those of the outline: by a lamp of 1 column 0 comes to 1
        GnatPortraits g = Scenes.told("g30;s1,0,0,0,0;w1;");
        g.stand(0, 0);
        g.bats(1);
        due("over the outline's column", g.window(0, 2), 2);
        g.bats(2);
        due("over the air's column", g.window(0, 2), 0);
    }

    static void promise07EyesOfTheFirstAndTheLastDot() {
        GnatPortraits g = whole(30, 0);
        g.eye(0);
        due("without the first", g.window(0, 2), ALL - 1);
        g.eye(29);
        due("without the last", g.window(0, 2), (ALL >> 1) - 1);
        GnatPortraits moved = Scenes.told("g30;s1,0,0,0,0;w1;");
        moved.stand(0, 0);
        moved.eye(0);
        due("of the outline", moved.window(0, 2), 2);
        moved.eye(1);
        due("of the air", moved.window(0, 2), 0);
    }

    static void promise07OfMoreThanNTheGreatestAreLeftOut() {
        for (int gnats = 1; gnats <= 30; gnats++) {
            GnatPortraits g = whole(gnats, 0);
            due(gnats + " gnats of 30", g.window(0, 2), MOST >> (31 - gnats));
        }
        GnatPortraits just = Scenes.told("g3;s7,0,0,0,0;s7,0,0,0,32;w0;w0;");
        just.stand(0, 0);
        just.stand(1, 1);
        due("just as many", just.window(0, 2), 7);
        due("one more", just.window(1, 2), 7);
    }

    static void promise07GnatsAreCountedBehindWhatIsLost() {
        GnatPortraits g = whole(2, 0);
        g.bats(1);
        due("behind bats", g.window(0, 2), Scenes.dots(".XX..."));
        g.eye(2);
        due("behind eyes", g.window(0, 2), Scenes.dots(".X.X.."));
        GnatPortraits moved = whole(2, 5);
        due("behind the air's end", moved.window(0, 2), Scenes.dots(".....X", ".....X"));
    }

    static void promise07NothingIsDrawnInRainOrSmokeOrByNobody() {
        GnatPortraits g = Scenes.told("g30;s1,0,0,0,0;s2,0,0,0,0;w0;w0;");
        due("nobody", g.window(0, 2), 0);
        due("nobody, seen", g.window(0, 3), NONE);
        g.stand(0, 0);
        g.stand(1, 1);
        g.smoke(0, true);
        due("smoke", g.window(0, 2), 0);
        due("smoke, seen", g.window(0, 3), NONE);
        due("none over the other", g.window(1, 2), 2);
        g.rain(true);
        due("rain", g.window(1, 2), 0);
        due("rain, seen", g.window(1, 3), NONE);
        g.smoke(0, false);
        due("rain without smoke", g.window(0, 2), 0);
        g.rain(false);
        due("neither", g.window(0, 2), 1);
        due("neither, seen", g.window(0, 3), 0);
    }

    static void promise07NobodyIsSeenInNothing() {
        GnatPortraits g = Scenes.told("g30;s0,0,0,0,0;s32,0,0,0,0;w0;w5;");
        g.stand(0, 0);
        due("an empty outline", g.window(0, 3), NONE);
        g.stand(1, 1);
        due("all lost", g.window(1, 3), NONE);
        g.lamp(1, 0);
        due("one dot", g.window(1, 3), 1);
    }

    static void promise07OfLikeOnesTheLeastIsSeen() {
        GnatPortraits g = Scenes.told("g30;s3,0,0,0,0;s3,0,0,0,0;w0;w0;");
        g.stand(1, 1);
        due("the least, though the other stands there", g.window(1, 3), 0);
        due("who stands there", g.window(1, 1), 1);
    }

    // ---- promise 8

    static void promise08NoneBeyondTheEntries() {
        GnatPortraits g = Scenes.told(Scenes.SMALL);
        due("an empty one", g.album(0, 0), NONE);
        g.stand(0, 0);
        g.dusk(1);
        due("the only one", g.album(0, 0), 0);
        due("the second", g.album(1, 0), NONE);
        for (int i : new int[] {LEAST, -1, 20, 21, MOST}) {
            for (int what = 0; what < 3; what++) {
                int asked = what;
                refused("album(" + i + ", " + what + ")", Scenes::fullAlbum, x -> x.album(i, asked), NONE);
            }
        }
        due("no capital", Scenes.bare().album(0, 2), NONE);
    }

    static void promise08WhatIs0To2() {
        for (int what : new int[] {LEAST, -1, 3, MOST}) {
            refused("what " + what, Scenes::fullAlbum, g -> g.album(0, what), OUTSIDE);
            refused("what " + what + " of none", Scenes::fullAlbum, g -> g.album(20, what), OUTSIDE);
            refused("what " + what + ", no capital", Scenes::bare, g -> g.album(0, what), OUTSIDE);
        }
    }

    static void promise08ItKeepsTheLatest20() {
        // the lamp tells the dusk: 0, 1, 2, ... by turns of 6
        GnatPortraits g = Scenes.told("g1;s1,0,0,0,0;w0;");
        g.stand(0, 0);
        for (int dusk = 0; dusk < 45; dusk++) {
            g.lamp(0, dusk % 6);
            due("entries", g.dusk(1), Math.min(dusk + 1, 20));
            due("the latest", g.album(0, 2), 1 << (dusk % 6));
            int oldest = Math.min(dusk, 19);
            due("the oldest", g.album(oldest, 2), 1 << ((dusk - oldest) % 6));
            due("none behind it", g.album(oldest + 1, 2), NONE);
        }
    }

    static void promise08TheOldestIsLostWithinADusk() {
        GnatPortraits g = Scenes.told("g30;s1,0,0,0,0;s2,0,0,0,0;s4,0,0,0,0;w0;w0;w0;");
        for (int i = 0; i < 3; i++) {
            g.stand(i, 2 - i);
        }
        due("six dusks", g.dusk(6), 18);
        due("the seventh", g.dusk(1), 20);
        due("the first window's first entry is lost", g.album(19, 0), 1);
        due("its sitter", g.album(19, 1), 1);
        due("none behind", g.album(20, 0), NONE);
    }

    static void promise08WindowByWindow() {
        GnatPortraits g = Scenes.told("g30;s1,0,0,0,0;s2,0,0,0,0;s4,0,0,0,0;s8,0,0,0,0;s16,0,0,0,0;w0;w0;w0;w0;w0;");
        for (int s = 0; s < 5; s++) {
            g.stand(s, 4 - s);
        }
        due("five", g.dusk(1), 5);
        for (int i = 0; i < 5; i++) {
            due("window of " + i, g.album(i, 0), 4 - i);
            due("sitter of " + i, g.album(i, 1), i);
            due("drawn of " + i, g.album(i, 2), 1 << i);
        }
        due("no sixth", g.album(5, 0), NONE);
    }

    static void promise08OneDotIsKeptNoneIsNot() {
        GnatPortraits g = Scenes.told("g30;s1,0,0,0,0;s0,0,0,0,0;w5;w0;w0;");
        g.stand(0, 0);
        g.stand(1, 1);
        due("one dot alone", g.dusk(1), 1);
        due("it", g.album(0, 2), 32);
        g.wind(1);
        due("lost", g.dusk(1), 1);
        g.bats(32);
        due("bats", g.dusk(1), 1);
        g.eye(5);
        due("an eye", g.dusk(1), 1);
        due("the eye, still", g.dusk(1), 1);
        due("the eye, still", g.dusk(1), 1);
        due("no eye", g.dusk(1), 2);
        g.rain(true);
        due("rain", g.dusk(1), 2);
        g.smoke(0, true);
        due("smoke", g.dusk(1), 2);
        due("none of these", g.dusk(1), 3);
    }

    // ---- promise 9

    static void promise09GlassesAre0To3() {
        GnatPortraits g = whole(30, 0);
        for (int i = 0; i < 4; i++) {
            due("holds nothing at first", g.glass(i), 0);
            g.lamp(0, i);
            g.press(i, 0);
        }
        String[] rows = {"XXXXXX", ".XXXXX", "..XXXX", "...XXX"};
        for (int i = 0; i < 4; i++) {
            due("glass " + i, g.glass(i), inEveryRow(rows[i]));
        }
        for (int i : new int[] {LEAST, -1, 4, MOST}) {
            refused("glass(" + i + ")", Scenes::busy, x -> x.glass(i), UNKNOWN);
            refused("glass(" + i + "), no capital", Scenes::bare, x -> x.glass(i), UNKNOWN);
        }
        due("no capital", Scenes.bare().glass(3), 0);
    }

    // ---- promise 10

    static void promise10SittersAndWindowsThatThereAre() {
        GnatPortraits g = crowd();
        due("the last at the last", g.stand(5, 4), NONE);
        due("the first at the first", g.stand(0, 0), NONE);
        for (int no : BEYOND_THREE) {
            refused("stand(" + no + ", 2)", Scenes::busy, x -> x.stand(no, 2), UNKNOWN);
            refused("stand(2, " + no + ")", Scenes::busy, x -> x.stand(2, no), UNKNOWN);
        }
        refused("no capital", Scenes::bare, x -> x.stand(0, 0), UNKNOWN);
    }

    static void promise10SomebodyStandsThere() {
        refused("another", Scenes::busy, g -> g.stand(2, 0), NOT);
        refused("he", Scenes::busy, g -> g.stand(0, 0), NOT);
        refused("one who stands elsewhere", Scenes::busy, g -> g.stand(0, 1), NOT);
    }

    static void promise10UnknownComesAheadOfNot() {
        refused("no sitter at a window that is taken", Scenes::busy, g -> g.stand(3, 0), UNKNOWN);
        refused("nobody at a window that is taken", Scenes::busy, g -> g.stand(-1, 0), UNKNOWN);
    }

    static void promise10OneAtMostAtEachWindowAndNobodyAtTwo() {
        GnatPortraits g = crowd();
        due("comes", g.stand(5, 0), NONE);
        due("from the first to the last", g.stand(5, 4), 0);
        due("the first is free", g.window(0, 1), NONE);
        due("the last is his", g.window(4, 1), 5);
        due("and back", g.stand(5, 0), 4);
        due("the last is free", g.window(4, 1), NONE);
        due("sitter 0 where nobody is", g.stand(0, 4), NONE);
        due("sitter 0 counts as somebody", g.stand(1, 4), NOT);
    }

    // ---- promise 11

    static void promise11SittersThatThereAre() {
        for (int s : BEYOND_THREE) {
            refused("go(" + s + ")", Scenes::busy, g -> g.go(s), UNKNOWN);
        }
        refused("no capital", Scenes::bare, g -> g.go(0), UNKNOWN);
        GnatPortraits g = crowd();
        g.stand(5, 4);
        g.stand(0, 0);
        due("the last", g.go(5), 4);
        due("the first", g.go(0), 0);
    }

    static void promise11HeStandsNowhere() {
        refused("never stood", Scenes::busy, g -> g.go(2), NOT);
        GnatPortraits g = crowd();
        g.stand(0, 3);
        due("goes", g.go(0), 3);
        due("gone", g.go(0), NOT);
        due("his window is free", g.window(3, 1), NONE);
        due("one stand, one go", g.told(15), 2);
    }

    // ---- promise 12

    static void promise12LampsAre0To5() {
        GnatPortraits g = crowd();
        due("to 5", g.lamp(0, 5), 0);
        due("to 0", g.lamp(0, 0), 5);
        due("is", g.window(0, 0), 0);
        due("the last window", g.lamp(4, 1), 5);
        due("the last window is", g.window(4, 0), 1);
        for (int x : new int[] {LEAST, -1, 6, MOST}) {
            refused("lamp(1, " + x + ")", Scenes::busy, y -> y.lamp(1, x), OUTSIDE);
        }
    }

    static void promise12WindowsThatThereAre() {
        for (int w : BEYOND_THREE) {
            refused("lamp(" + w + ", 0)", Scenes::busy, g -> g.lamp(w, 0), UNKNOWN);
        }
        refused("no capital", Scenes::bare, g -> g.lamp(0, 0), UNKNOWN);
    }

    static void promise12UnknownComesAheadOfOutside() {
        refused("both", Scenes::busy, g -> g.lamp(3, 6), UNKNOWN);
        refused("both", Scenes::busy, g -> g.lamp(-1, -1), UNKNOWN);
    }

    static void promise12TheSameLampIsMovedToo() {
        GnatPortraits g = crowd();
        due("the same", g.lamp(3, 4), 4);
        due("can be undone", g.told(15), 1);
    }

    // ---- promise 13

    static void promise13WindIsMinus3To3() {
        GnatPortraits g = Scenes.told("g1;");
        due("to -3", g.wind(-3), 3);
        due("to 3", g.wind(3), 0);
        due("to 0", g.wind(0), 6);
        for (int n : new int[] {LEAST, -4, 4, MOST}) {
            refused("wind(" + n + ")", Scenes::busy, x -> x.wind(n), OUTSIDE);
        }
    }

    static void promise13NotWithoutACapital() {
        for (int n = -3; n <= 3; n++) {
            int blown = n;
            refused("wind(" + n + ")", Scenes::bare, g -> g.wind(blown), NOT);
        }
        refused("outside comes first", Scenes::bare, g -> g.wind(-4), OUTSIDE);
        refused("outside comes first", Scenes::bare, g -> g.wind(4), OUTSIDE);
    }

    // ---- promise 14

    static void promise14BatsAre0To63() {
        GnatPortraits g = Scenes.told("g1;");
        due("to 63", g.bats(63), 0);
        due("to 0", g.bats(0), 63);
        due("in place of those that were", g.bats(1), 0);
        due("are", g.told(7), 1);
        for (int set : new int[] {LEAST, -1, 64, MOST}) {
            refused("bats(" + set + ")", Scenes::busy, x -> x.bats(set), OUTSIDE);
        }
    }

    static void promise14NotWithoutACapital() {
        refused("bats(0)", Scenes::bare, g -> g.bats(0), NOT);
        refused("bats(63)", Scenes::bare, g -> g.bats(63), NOT);
        refused("outside comes first", Scenes::bare, g -> g.bats(64), OUTSIDE);
        refused("outside comes first", Scenes::bare, g -> g.bats(-1), OUTSIDE);
    }

    // ---- promise 15

    static void promise15DotsAre0To29() {
        GnatPortraits g = Scenes.told("g1;");
        due("0", g.eye(0), 1);
        due("29", g.eye(29), 1 + (1 << 29));
        due("one that is taken", g.eye(29), 1 + (1 << 29));
        for (int dot : new int[] {LEAST, -1, 30, 31, 32, MOST}) {
            refused("eye(" + dot + ")", Scenes::busy, x -> x.eye(dot), OUTSIDE);
        }
    }

    static void promise15NotWithoutACapital() {
        refused("eye(0)", Scenes::bare, g -> g.eye(0), NOT);
        refused("eye(29)", Scenes::bare, g -> g.eye(29), NOT);
        refused("outside comes first", Scenes::bare, g -> g.eye(30), OUTSIDE);
        refused("outside comes first", Scenes::bare, g -> g.eye(-1), OUTSIDE);
    }

    // ---- promise 16

    static void promise16NotWithoutACapital() {
        refused("rain(true)", Scenes::bare, g -> g.rain(true), NOT);
        refused("rain(false)", Scenes::bare, g -> g.rain(false), NOT);
        GnatPortraits g = Scenes.told("g1;");
        due("not at first", g.rain(true), 0);
        due("it did", g.rain(false), 1);
        due("not any more", g.rain(false), 0);
        due("each can be undone", g.told(15), 3);
    }

    static void promise16RainIsShownAs1() {
        GnatPortraits g = Scenes.told("g1;");
        due("not at first", g.told(9), 0);
        g.rain(true);
        due("it rains", g.told(9), 1);
        g.rain(true);
        due("it rains still", g.told(9), 1);
        g.rain(false);
        due("it does not", g.told(9), 0);
    }

    // ---- promise 17

    static void promise17SmokeEndsOverTheOneWindowAlone() {
        for (int w = 0; w < 5; w++) {
            GnatPortraits g = crowd();
            for (int each = 0; each < 5; each++) {
                g.smoke(each, true);
            }
            due("there was over " + w, g.smoke(w, false), 1);
            due("over all but " + w, g.told(10), 31 ^ (1 << w));
        }
    }

    static void promise17WindowsThatThereAre() {
        GnatPortraits g = crowd();
        due("none over the first", g.smoke(0, true), 0);
        due("none over the last", g.smoke(4, true), 0);
        due("there was over the first", g.smoke(0, false), 1);
        due("over the last still", g.told(10), 16);
        due("there was over the last", g.smoke(4, true), 1);
        due("none over another", g.smoke(3, false), 0);
        due("each can be undone", g.told(15), 5);
        for (int w : BEYOND_THREE) {
            refused("smoke(" + w + ", true)", Scenes::busy, x -> x.smoke(w, true), UNKNOWN);
            refused("smoke(" + w + ", false)", Scenes::busy, x -> x.smoke(w, false), UNKNOWN);
        }
        // a shift by 33 is one by 1 in Java: there is smoke over window 1
        refused("smoke(33, false)", Scenes::busy, x -> x.smoke(33, false), UNKNOWN);
        refused("no capital", Scenes::bare, x -> x.smoke(0, true), UNKNOWN);
    }

    // ---- promise 18

    static void promise18GlassesAndWindowsThatThereAre() {
        for (int no : new int[] {LEAST, -1, 4, MOST}) {
            refused("press(" + no + ", 0)", Scenes::busy, x -> x.press(no, 0), UNKNOWN);
        }
        for (int no : BEYOND_THREE) {
            refused("press(3, " + no + ")", Scenes::busy, x -> x.press(3, no), UNKNOWN);
        }
        refused("no capital", Scenes::bare, x -> x.press(0, 0), UNKNOWN);
        GnatPortraits g = crowd();
        g.stand(2, 4);
        g.stand(0, 0);
        due("the last of the last", g.press(3, 4), 0);
        due("the first of the first", g.press(0, 0), 0);
        due("the last held", g.press(3, 0), 32);
        due("the first held", g.press(0, 4), ALL);
        due("the last holds", g.glass(3), ALL);
        due("the first holds", g.glass(0), 32);
    }

    static void promise18NothingIsPressedToo() {
        GnatPortraits g = crowd();
        g.stand(0, 0);
        g.press(1, 0);
        due("held", g.press(1, 2), ALL);
        due("nobody's", g.glass(1), 0);
        g.press(1, 0);
        g.smoke(0, true);
        due("held again", g.press(1, 0), ALL);
        due("smoke", g.glass(1), 0);
    }

    static void promise18AGlassHoldsWhatWasDrawnThen() {
        GnatPortraits g = crowd();
        g.stand(0, 0);
        g.press(1, 0);
        g.go(0);
        g.eye(3);
        g.dusk(60);
        due("still", g.glass(1), ALL);
    }

    // ---- promise 19

    static void promise19DusksAre1To60() {
        GnatPortraits g = Scenes.told(Scenes.SMALL);
        g.stand(0, 0);
        due("1", g.dusk(1), 1);
        due("one", g.told(5), 1);
        due("60", g.dusk(60), 20);
        due("sixty more", g.told(5), 61);
        for (int n : new int[] {LEAST, -1, 0, 61, MOST}) {
            refused("dusk(" + n + ")", Scenes::busy, x -> x.dusk(n), OUTSIDE);
        }
    }

    static void promise19NotWithoutACapital() {
        refused("dusk(1)", Scenes::bare, g -> g.dusk(1), NOT);
        refused("dusk(60)", Scenes::bare, g -> g.dusk(60), NOT);
        refused("outside comes first", Scenes::bare, g -> g.dusk(0), OUTSIDE);
        refused("outside comes first", Scenes::bare, g -> g.dusk(61), OUTSIDE);
    }

    private static GnatPortraits at9000() {
        GnatPortraits g = Scenes.told(Scenes.SMALL);
        g.stand(0, 0);
        for (int i = 0; i < 150; i++) {
            g.dusk(60);
        }
        return g;
    }

    static void promise19FullAbove9000() {
        GnatPortraits g = at9000();
        due("dusks", g.told(5), 9000);
        due("60 at 9000", g.dusk(60), 20);
        due("dusks then", g.told(5), 9060);
        due("full", g.dusk(1), FULL);
        due("undone", g.undo(), 15);
        due("1 at 9000", g.dusk(1), 20);
        due("full at 9001", g.dusk(1), FULL);
        due("undone", g.undo(), 15);
        due("not full again", g.dusk(1), 20);
        refused("dusk(1) at 9001", Scenes::late, x -> x.dusk(1), FULL);
        refused("dusk(60) at 9001", Scenes::late, x -> x.dusk(60), FULL);
        refused("outside comes first", Scenes::late, x -> x.dusk(0), OUTSIDE);
        refused("outside comes first", Scenes::late, x -> x.dusk(61), OUTSIDE);
    }

    static void promise19AllElseGoesOnAbove9000() {
        GnatPortraits g = Scenes.late();
        due("lamp", g.lamp(0, 3), 0);
        due("eye", g.eye(2), 4);
        due("go", g.go(0), 0);
        due("stand", g.stand(0, 0), NONE);
        due("rain", g.rain(true), 0);
        due("press", g.press(0, 0), 0);
    }

    static void promise19WindGoes1Towards0() {
        int[] then = {-2, -1, 0, 0, 0, 1, 2};
        for (int n = -3; n <= 3; n++) {
            GnatPortraits g = Scenes.told("g1;");
            g.wind(n);
            due("none is drawn", g.dusk(1), 0);
            due("wind " + n, g.told(6), then[n + 3] + 3);
            g.dusk(60);
            due("wind " + n + " is gone", g.told(6), 3);
        }
    }

    static void promise19TheDuskIsDrawnAheadOfWhatEnds() {
        GnatPortraits g = Scenes.told("g30;s1,0,0,0,0;s1,0,0,0,0;w0;w0;");
        g.stand(0, 0);
        g.stand(1, 1);
        g.wind(3);
        due("by wind 3", g.dusk(1), 2);
        due("by wind 3, drawn", g.album(0, 2), 8);
        g.wind(0);
        g.bats(1);
        due("under bats", g.dusk(1), 2);
        due("bats are gone", g.told(7), 0);
        g.rain(true);
        due("in rain", g.dusk(1), 2);
        due("rain has ended", g.told(9), 0);
        g.smoke(0, true);
        g.smoke(1, true);
        due("in smoke", g.dusk(1), 2);
        due("smoke has ended", g.told(10), 0);
        g.rain(true);
        g.smoke(0, true);
        g.smoke(1, true);
        g.bats(63);
        due("the second of two", g.dusk(2), 4);
        due("the lamp stays, he too", g.album(0, 2), 1);
    }

    static void promise19EyesEndInDusksThatLeaveOver2By3() {
        for (int dusk = 0; dusk < 9; dusk++) {
            GnatPortraits g = whole(30, 0);
            for (int i = 0; i < dusk; i++) {
                g.dusk(1);
            }
            g.eye(0);
            g.eye(29);
            g.dusk(1);
            due("drawn without", g.album(0, 2), (ALL >> 1) - 1);
            due("eyes behind dusk " + dusk, g.told(8), dusk % 3 == 2 ? 0 : 1 + (1 << 29));
        }
    }

    static void promise19ManyAreAsOneByOne() {
        GnatPortraits many = Scenes.busy();
        GnatPortraits single = Scenes.busy();
        many.dusk(60);
        for (int i = 0; i < 60; i++) {
            single.dusk(1);
        }
        many.keep(0);
        single.keep(0);
        CHECKS.same("60 and 60 times 1", Scenes.all(many), Scenes.all(single));
    }
}
