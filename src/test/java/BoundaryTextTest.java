import java.util.function.Supplier;

/** Boundary cases of the text: the document's section 1 and promises 1 to 4, a test for each sentence. */
public final class BoundaryTextTest {
    private static final int NONE = Scenes.NONE;
    private static final int UNKNOWN = Scenes.UNKNOWN;
    private static final int OUTSIDE = Scenes.OUTSIDE;
    private static final int NOT = Scenes.NOT;
    private static final int FULL = Scenes.FULL;
    private static final int ALL = Scenes.ALL;
    private static final int LEAST = Scenes.LEAST;
    private static final int MOST = Scenes.MOST;
    private static final String SITTER = "s1,0,0,0,0;";

    private static final Checks CHECKS = new Checks();

    public static void main(String[] args) throws ReflectiveOperationException {
        CHECKS.runAll(BoundaryTextTest.class);
    }

    private static void due(String call, int got, int want) {
        CHECKS.due(call, got, want);
    }

    /** A fault of this kind at this letter, and neither a told capital nor none is another by it. */
    private static void faulty(String text, int kind, int at) {
        GnatPortraits fresh = new GnatPortraits();
        due("capital of '" + text + "'", Scenes.tell(fresh, text), -10 - kind);
        due("fault of '" + text + "'", fresh.fault(), at);
        due("no capital behind '" + text + "'", fresh.rain(false), NOT);
        GnatPortraits other = Scenes.told(Scenes.SMALL);
        Scenes.tell(other, text);
        due("fault of '" + text + "' over a capital", other.fault(), at);
        CHECKS.same("behind '" + text + "'", Scenes.allButText(other), Scenes.allButText(Scenes.told(Scenes.SMALL)));
    }

    private static GnatPortraits fine(String text, int sitters) {
        GnatPortraits g = new GnatPortraits();
        due("capital of '" + text + "'", Scenes.tell(g, text), sitters);
        due("fault of '" + text + "'", g.fault(), NONE);
        due("letters behind '" + text + "'", g.told(4), 0);
        return g;
    }

    // ---- promise 1

    static void promise01NoCapital() {
        Supplier<GnatPortraits> fresh = GnatPortraits::new;
        for (int what = 0; what < 16; what++) {
            Scenes.changesNothing(CHECKS, "told", fresh, noted(what), what == 6 ? 3 : 0);
        }
        Scenes.changesNothing(CHECKS, "wind", fresh, g -> g.wind(0), NOT);
        Scenes.changesNothing(CHECKS, "bats", fresh, g -> g.bats(0), NOT);
        Scenes.changesNothing(CHECKS, "eye", fresh, g -> g.eye(0), NOT);
        Scenes.changesNothing(CHECKS, "rain", fresh, g -> g.rain(true), NOT);
        Scenes.changesNothing(CHECKS, "dusk", fresh, g -> g.dusk(1), NOT);
        Scenes.changesNothing(CHECKS, "drift", fresh, g -> g.drift(1), NOT);
        Scenes.changesNothing(CHECKS, "stand", fresh, g -> g.stand(0, 0), UNKNOWN);
        Scenes.changesNothing(CHECKS, "go", fresh, g -> g.go(0), UNKNOWN);
        Scenes.changesNothing(CHECKS, "lamp", fresh, g -> g.lamp(0, 0), UNKNOWN);
        Scenes.changesNothing(CHECKS, "smoke", fresh, g -> g.smoke(0, true), UNKNOWN);
        Scenes.changesNothing(CHECKS, "press", fresh, g -> g.press(0, 0), UNKNOWN);
        Scenes.changesNothing(CHECKS, "undo", fresh, g -> g.undo(), NOT);
        Scenes.changesNothing(CHECKS, "fault", fresh, g -> g.fault(), NONE);
        Scenes.changesNothing(CHECKS, "goBack", fresh, g -> g.goBack(0), NOT);
        Scenes.changesNothing(CHECKS, "goBack", fresh, g -> g.goBack(1), NOT);
    }

    private static java.util.function.ToIntFunction<GnatPortraits> noted(int what) {
        return g -> g.told(what);
    }

    static void promise01TheSeedIsZeroAtFirst() {
        due("seed", new GnatPortraits().seed(5), 0);
    }

    // ---- promise 2

    static void promise02LettersAre0To255() {
        GnatPortraits g = new GnatPortraits();
        due("0", g.feed(0), 1);
        due("255", g.feed(255), 2);
        for (int letter : new int[] {LEAST, -1, 256, MOST}) {
            Scenes.changesNothing(CHECKS, "feed(" + letter + ")", Scenes::busy, x -> x.feed(letter), OUTSIDE);
            Scenes.changesNothing(CHECKS, "feed(" + letter + "), none", Scenes::bare, x -> x.feed(letter), OUTSIDE);
        }
    }

    static void promise02The240thIsTakenThe241stIsNot() {
        GnatPortraits g = new GnatPortraits();
        for (int i = 1; i <= 240; i++) {
            due("letter " + i, g.feed('g'), i);
        }
        due("letter 241", g.feed('g'), FULL);
        due("letters", g.told(4), 240);
        Scenes.changesNothing(CHECKS, "a blank behind 240", Scenes::longText, x -> x.feed(' '), FULL);
        Scenes.changesNothing(CHECKS, "a word behind 240", Scenes::longText, x -> x.feed('x'), FULL);
    }

    static void promise02OutsideComesAheadOfFull() {
        Scenes.changesNothing(CHECKS, "256 behind 240", Scenes::longText, x -> x.feed(256), OUTSIDE);
        Scenes.changesNothing(CHECKS, "-1 behind 240", Scenes::longText, x -> x.feed(-1), OUTSIDE);
    }

    static void promise02TheTextBeginsAgainBehindCapital() {
        GnatPortraits g = Scenes.longText();
        due("full", g.feed(' '), FULL);
        due("told", g.capital(), 1);
        due("the first letter again", g.feed('x'), 1);
        due("a fault", g.capital(), -11);
        due("the first letter behind a fault", g.feed('g'), 1);
    }

    // ---- promise 3: the text's words and numbers

    static void promise03GnatsAre1To30() {
        due("1", fine("g1;", 0).told(0), 1);
        due("30", fine("g30;", 0).told(0), 30);
        faulty("g0;", 2, 1);
        faulty("g31;", 2, 1);
        faulty("g000;", 2, 1);
        faulty("g999;", 2, 1);
    }

    static void promise03GnatsAreFirst() {
        for (char word : new char[] {'s', 'w', 'c'}) {
            faulty(word + "1;", 1, 0);
            faulty("  " + word + "1;", 1, 2);
            faulty(word + "1;g1;", 1, 0);
        }
    }

    static void promise03GnatsAreOnce() {
        faulty("g1;g1;", 3, 3);
        faulty("g1;" + SITTER + "g1;", 3, 14);
        faulty("g1;  g", 3, 5);
    }

    static void promise03OutlinesAre0To63InEachRow() {
        due("0", fine("g1;s0,0,0,0,0;", 1).sitter(0, 0), 0);
        due("63", fine("g1;s63,63,63,63,63;", 1).sitter(0, 0), ALL);
        for (int row = 0; row < 5; row++) {
            String ahead = "g1;s" + "0,".repeat(row);
            String behind = ",0".repeat(4 - row) + ";";
            due("63 in row " + row, fine(ahead + "63" + behind, 1).sitter(0, 0), 63 << (6 * row));
            due("1 in row " + row, fine(ahead + "1" + behind, 1).sitter(0, 0), 1 << (6 * row));
            due("32 in row " + row, fine(ahead + "32" + behind, 1).sitter(0, 0), 32 << (6 * row));
            faulty(ahead + "64" + behind, 2, ahead.length());
            faulty(ahead + "999" + behind, 2, ahead.length());
        }
    }

    static void promise03OutlinesHaveFiveRows() {
        faulty("g1;s0,0,0,0;", 1, 11);
        faulty("g1;s0,0,0,0,0,0;", 1, 13);
        faulty("g1;s;", 1, 4);
        faulty("g1;s0;", 1, 5);
        faulty("g1;s,0,0,0,0;", 1, 4);
        faulty("g1;s0,0,0,0,;", 1, 12);
        faulty("g1;s0,,0,0,0;", 1, 6);
    }

    static void promise03SittersAreSixAtMost() {
        due("none", fine("g1;", 0).sitter(0, 0), UNKNOWN);
        GnatPortraits six = fine("g1;" + SITTER.repeat(6), 6);
        due("the sixth", six.sitter(5, 0), 1);
        due("no seventh", six.sitter(6, 0), UNKNOWN);
        faulty("g1;" + SITTER.repeat(6) + SITTER, 3, 69);
        faulty("g1;" + SITTER.repeat(6) + "s", 3, 69);
        faulty("g1;" + SITTER.repeat(6) + " s64", 3, 70);
    }

    static void promise03LampsAre0To5() {
        due("0", fine("g1;w0;", 0).window(0, 0), 0);
        due("5", fine("g1;w5;", 0).window(0, 0), 5);
        faulty("g1;w6;", 2, 4);
        faulty("g1;w999;", 2, 4);
        faulty("g1;w-1;", 1, 4);
    }

    static void promise03WindowsAreFiveAtMost() {
        due("none", fine("g1;", 0).told(2), 0);
        GnatPortraits five = fine("g1;w0;w1;w2;w3;w4;", 0);
        due("the fifth", five.window(4, 0), 4);
        due("no sixth", five.window(5, 0), UNKNOWN);
        faulty("g1;w0;w1;w2;w3;w4;w5;", 3, 18);
        faulty("g1;w0;w1;w2;w3;w4;w", 3, 18);
    }

    static void promise03CriticsLookAt1To63() {
        due("1", fine("g1;c1;", 0).told(3), 1);
        due("63", fine("g1;c63;", 0).told(3), 1);
        faulty("g1;c0;", 2, 4);
        faulty("g1;c64;", 2, 4);
        faulty("g1;c00;", 2, 4);
    }

    static void promise03CriticsAreSixAtMost() {
        due("none", fine("g1;", 0).told(3), 0);
        due("six", fine("g1;c1;c1;c1;c1;c1;c1;", 0).told(3), 6);
        faulty("g1;c1;c1;c1;c1;c1;c1;c1;", 3, 21);
        faulty("g1;c1;c1;c1;c1;c1;c1;c", 3, 21);
    }

    static void promise03NumbersHaveOneToThreeFigures() {
        due("one", fine("g7;", 0).told(0), 7);
        due("two", fine("g07;", 0).told(0), 7);
        due("three", fine("g007;", 0).told(0), 7);
        faulty("g0007;", 2, 1);
        faulty("g00000000000000000007;", 2, 1);
        faulty("g;", 1, 1);
        due("lamp of three", fine("g1;w005;", 0).window(0, 0), 5);
        faulty("g1;w0005;", 2, 4);
        due("critic of three", fine("g1;c063;", 0).told(3), 1);
        faulty("g1;c0063;", 2, 4);
        due("row of three", fine("g1;s063,000,0,0,0;", 1).sitter(0, 0), 63);
        faulty("g1;s0063,0,0,0,0;", 2, 4);
        // so many that the number is within its bounds again if it wraps around
        faulty("g4294967297;", 2, 1);
        faulty("g18446744073709551617;", 2, 1);
    }

    static void promise03AWordIsOneLetter() {
        faulty("gg1;", 1, 1);
        faulty("g1;ss1,1,1,1,1;", 1, 4);
        faulty("g1;ww1;", 1, 4);
        faulty("g1;cc1;", 1, 4);
        faulty("G1;", 1, 0);
        faulty("g1;S1,1,1,1,1;", 1, 3);
    }

    static void promise03BlanksMayStandAnywhereButWithinNumbers() {
        GnatPortraits g = fine("  g  3  ;  s  1  ,  2  ,  3  ,  4  ,  5  ;  w  4  ;  c  9  ;  ", 1);
        due("gnats", g.told(0), 3);
        due("outline", g.sitter(0, 0), 1 + (2 << 6) + (3 << 12) + (4 << 18) + (5 << 24));
        due("lamp", g.window(0, 0), 4);
        faulty("g1 2;", 1, 3);
        faulty("g0 1;", 2, 1);
        faulty("g1;w0 0;", 1, 6);
        faulty("g1;c1 0;", 1, 6);
        faulty("g1;s1 0,0,0,0,0;", 1, 6);
    }

    static void promise03OnlyLetter32IsABlank() {
        for (char letter : new char[] {0, 9, 10, 13, 31, 33, 160, 255}) {
            faulty(letter + "g1;", 1, 0);
            faulty("g" + letter + "1;", 1, 1);
            faulty("g1" + letter + ";", 1, 2);
            faulty("g1;" + letter, 1, 3);
        }
    }

    static void promise03FiguresAre48To57() {
        faulty("g1/;", 1, 2);
        faulty("g1:;", 1, 2);
        faulty("g/;", 1, 1);
        faulty("g:;", 1, 1);
        due("9", fine("g9;", 0).told(0), 9);
        due("10", fine("g10;", 0).told(0), 10);
    }

    static void promise03AnEmptyTextIsNoCapital() {
        for (String text : new String[] {"", " ", " ".repeat(240)}) {
            GnatPortraits g = fine(text, 0);
            due("no capital", g.wind(0), NOT);
            GnatPortraits fresh = new GnatPortraits();
            CHECKS.same("as a new one", Scenes.all(g), Scenes.all(fresh));
        }
    }

    static void promise03AnEmptyTextBehindACapitalIsNoCapital() {
        GnatPortraits g = Scenes.busy();
        g.capital();
        due("empty", g.capital(), 0);
        GnatPortraits fresh = new GnatPortraits();
        fresh.seed(123);
        CHECKS.same("as a new one but for the seed", Scenes.all(g), Scenes.all(fresh));
    }

    static void promise03A240LetterTextIsRead() {
        GnatPortraits g = fine("g1;" + " ".repeat(234) + "w5;", 0);
        due("its last word", g.window(0, 0), 5);
        due("a capital of blanks and a word", fine(" ".repeat(237) + "g8;", 0).told(0), 8);
    }

    // ---- promise 3: what it answers and what it leaves

    static void promise03HowManySitters() {
        for (int sitters = 0; sitters <= 6; sitters++) {
            due("sitters", fine("g1;" + SITTER.repeat(sitters), sitters).told(1), sitters);
        }
    }

    static void promise03AFaultEmptiesTheTextAndLeavesAllElse() {
        for (String text : new String[] {"x", "g31;", "g1;g", "g"}) {
            GnatPortraits g = Scenes.busy();
            g.capital();
            GnatPortraits other = Scenes.busy();
            other.capital();
            stir(g);
            stir(other);
            CHECKS.holds("a fault in " + text, Scenes.tell(g, text) < -10);
            due("letters", g.told(4), 0);
            CHECKS.same("all else behind " + text, Scenes.allButText(g), Scenes.allButText(other));
        }
    }

    /** Something to be lost in the capital of one sitter that busy()'s text tells. */
    private static void stir(GnatPortraits g) {
        g.wind(1);
        g.eye(3);
        g.keep(0);
        g.bats(5);
        g.dusk(2);
        g.tellOf(1, false);
    }

    static void promise03AllBeginsAnewButTheSeed() {
        GnatPortraits g = Scenes.rainy();
        g.keep(0);
        g.bats(7);
        g.capital();
        GnatPortraits again = Scenes.told("g7;s1,2,3,4,5;");
        again.seed(123);
        CHECKS.same("as if told at first", Scenes.all(g), Scenes.all(again));
    }

    static void promise03DusksLampsGlassesAlbumBeginAnew() {
        GnatPortraits g = Scenes.fullAlbum();
        g.press(0, 0);
        g.press(3, 1);
        g.lamp(0, 5);
        g.lamp(2, 0);
        g.smoke(2, true);
        Scenes.tell(g, Scenes.CITY);
        CHECKS.same("as if told at first", Scenes.all(g), Scenes.all(Scenes.told(Scenes.CITY)));
    }

    static void promise03ASmallerCapitalHasNoneOfTheGreatersLeft() {
        GnatPortraits g = Scenes.told(Scenes.CROWD);
        for (int w = 0; w < 5; w++) {
            g.stand(w, w);
        }
        g.dusk(1);
        due("one", Scenes.tell(g, "g30;s1,0,0,0,0;w0;"), 1);
        due("no second sitter", g.sitter(1, 0), UNKNOWN);
        due("no second window", g.window(1, 0), UNKNOWN);
        due("no critics", g.votes(1, NONE), NONE);
        CHECKS.same("as if told at first", Scenes.all(g), Scenes.all(Scenes.told("g30;s1,0,0,0,0;w0;")));
    }

    // ---- promise 4

    static void promise04NoneAtFirstAndBehindATextWithoutFault() {
        GnatPortraits g = new GnatPortraits();
        due("at first", g.fault(), NONE);
        Scenes.tell(g, "x");
        due("0", g.fault(), 0);
        Scenes.tell(g, "g1;");
        due("told well", g.fault(), NONE);
        Scenes.tell(g, "g1;;");
        due("3", g.fault(), 3);
        g.capital();
        due("an empty text", g.fault(), NONE);
    }

    static void promise04TheFaultIsTheLatestCapitals() {
        GnatPortraits g = new GnatPortraits();
        Scenes.tell(g, "g1;x");
        due("a fault", g.fault(), 3);
        Scenes.tell(g, "gx");
        due("another", g.fault(), 1);
        Scenes.feed(g, "g1;");
        due("feeding is no telling", g.fault(), 1);
        g.seed(-1);
        g.rain(true);
        due("refusals are none", g.fault(), 1);
    }

    static void promise04TheEndIsAtTheTextsLength() {
        faulty("g", 1, 1);
        faulty("g ", 1, 2);
        faulty("g1", 1, 2);
        faulty("g1  ", 1, 4);
        faulty("g1;s", 1, 4);
        faulty("g1;s1,1,1,1,1", 1, 13);
        faulty("g1;s1,1,1,1,1  ", 1, 15);
        faulty("g1;s1,1", 1, 7);
        faulty("g1;s1,", 1, 6);
        faulty("g1;w", 1, 4);
        faulty("g1;w1", 1, 5);
        faulty("g1;c", 1, 4);
        faulty("g1;c1", 1, 5);
        faulty(" ".repeat(238) + "g1", 1, 240);
        faulty(" ".repeat(239) + "g", 1, 240);
        faulty("g1;w1" + " ".repeat(235), 1, 240);
    }

    static void promise04FaultsAtTheFirstAndTheLastLetter() {
        faulty("x", 1, 0);
        faulty(" ".repeat(239) + "x", 1, 239);
        faulty("g1;" + " ".repeat(236) + "g", 3, 239);
        faulty(" ".repeat(236) + "g999", 2, 237);
    }

    static void promise04ANumbersFaultIsAtItsFirst() {
        faulty("g31;", 2, 1);
        faulty("g  31;", 2, 3);
        faulty("g1234", 2, 1);
        faulty("g" + "1".repeat(239), 2, 1);
        faulty("g1;w 6;", 2, 5);
        faulty("g1;s0, 0,  64,0,0;", 2, 11);
    }

    static void promise04TheFirstLetterComesAheadOfTheLeastFault() {
        faulty("g31;x", 2, 1);
        faulty("g31x", 2, 1);
        faulty("g31", 2, 1);
        faulty("g1;g31;x", 3, 3);
        faulty("g1;gx", 3, 3);
        faulty("g1;g", 3, 3);
        faulty("g1;w6", 2, 4);
        faulty("g1;x g31;", 1, 3);
    }

    static void promise04OfSeveralAtALetterTheLeast() {
        // a number of four figures where none can stand; 'g' again, one too many where no word can
        faulty("g1;1234;", 1, 3);
        faulty("1234", 1, 0);
        faulty("g1 2345;", 1, 3);
        faulty("g1g1;", 1, 2);
        faulty("gg", 1, 1);
        faulty("g1;w0;w1;w2;w3;w4w", 1, 17);
        faulty("g1;c1;c1;c1;c1;c1;c1c", 1, 20);
        faulty("g1;" + SITTER.repeat(6).substring(0, 65) + "s", 1, 68);
    }

    static void promise04AWordThatIsNone() {
        for (char letter : new char[] {';', ',', '7', 'a', 'f', 'h', 'r', 't', 'v', 'x', 'b', 'd', 0, 255}) {
            faulty("" + letter, 1, 0);
            faulty("g1;" + letter, 1, 3);
        }
    }

    static void promise04SignsInPlaceOfOthers() {
        faulty("g1,", 1, 2);
        faulty("g1;w1,", 1, 5);
        faulty("g1;c1,", 1, 5);
        faulty("g1;s1;1;1;1;1;", 1, 5);
        faulty("g1;s1.1,1,1,1;", 1, 5);
        faulty("g1;;", 1, 3);
        faulty("g-1;", 1, 1);
        faulty("g+1;", 1, 1);
    }
}
