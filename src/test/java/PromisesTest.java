/** Each promise of the document by examples that were worked out by hand. */
public final class PromisesTest {
    private static final int NONE = -1;
    private static final int UNKNOWN = -1000000001;
    private static final int OUTSIDE = -1000000002;
    private static final int NOT = -1000000003;
    private static final int FULL = -1000000004;
    private static final int ALL = 1073741823;
    private static final int LEAST = Integer.MIN_VALUE;
    private static final int MOST = Integer.MAX_VALUE;

    private static final int SQUARE = dots("XX....", "XX....", "XX....", "......", "......");
    private static final int ARROW = dots("X.....", ".X....", "..X...", ".X....", "X.....");
    private static final int RING = dots("......", "XXX...", "X.X...", "XXX...", "......");
    private static final String SITTERS = "s3,3,3,0,0;s1,2,4,2,1;s0,7,5,7,0;";
    private static final String CITY = "g9;" + SITTERS + "w0;w2;w3;c7;c56;c1;";

    private static final Checks CHECKS = new Checks();

    public static void main(String[] args) {
        promise1();
        promise2();
        promise3();
        promise4();
        promise5();
        promise6();
        promise7();
        promise8();
        promise9();
        promise10();
        promise11();
        promise12();
        promise13();
        promise14();
        promise15();
        promise16();
        promise17();
        promise18();
        promise19();
        promise20();
        promise21();
        promise22();
        promise23();
        promise24();
        promise25();
        promise26();
        promise27();
        promise28();
        promise29();
        promise30();
        promise31();
        promise32();
        promise33();
        promise34();
        promise35();
        promise36();
        promise37();
        CHECKS.end();
    }

    private static int dots(String... rows) {
        int set = 0;
        for (int row = 0; row < rows.length; row++) {
            for (int column = 0; column < rows[row].length(); column++) {
                if (rows[row].charAt(column) == 'X') {
                    set += 1 << (6 * row + column);
                }
            }
        }
        return set;
    }

    private static void due(String call, int got, int want) {
        CHECKS.due(call, got, want);
    }

    private static int tell(GnatPortraits g, String text) {
        for (int i = 0; i < text.length(); i++) {
            g.feed(text.charAt(i));
        }
        return g.capital();
    }

    private static GnatPortraits city(String text) {
        GnatPortraits g = new GnatPortraits();
        due("capital of " + text + " has a fault", Math.min(0, tell(g, text)), 0);
        return g;
    }

    private static void faulty(String text, int kind, int at) {
        GnatPortraits g = city(CITY);
        due("capital of " + text, tell(g, text), -10 - kind);
        due("fault of " + text, g.fault(), at);
        due("sitters after " + text, g.told(1), 3);
        due("letters after " + text, g.told(4), 0);
    }

    private static void fine(String text, int sitters) {
        GnatPortraits g = new GnatPortraits();
        due("capital of " + text, tell(g, text), sitters);
        due("fault of " + text, g.fault(), NONE);
    }

    private static void promise1() {
        GnatPortraits g = new GnatPortraits();
        int[] due = {0, 0, 0, 0, 0, 0, 3, 0, 0, 0, 0, 0, 0, 0, 0, 0, OUTSIDE};
        for (int what = 0; what < due.length; what++) {
            due("new: told(" + what + ")", g.told(what), due[what]);
        }
        due("new: fault", g.fault(), NONE);
        due("new: sitter", g.sitter(0, 0), UNKNOWN);
        due("new: window", g.window(0, 0), UNKNOWN);
        due("new: album", g.album(0, 0), NONE);
        due("new: glass", g.glass(3), 0);
        due("new: stand", g.stand(0, 0), UNKNOWN);
        due("new: go", g.go(0), UNKNOWN);
        due("new: lamp", g.lamp(0, 0), UNKNOWN);
        due("new: smoke", g.smoke(0, true), UNKNOWN);
        due("new: press", g.press(0, 0), UNKNOWN);
        due("new: undo", g.undo(), NOT);
        due("new: seed", g.seed(0), 0);
        due("new: goBack", g.goBack(0), NOT);
        due("new: keep", g.keep(0), 1);
        due("new: goBack behind keep", g.goBack(0), 1);
    }

    private static void promise2() {
        GnatPortraits g = new GnatPortraits();
        due("feed(-1)", g.feed(-1), OUTSIDE);
        due("feed(256)", g.feed(256), OUTSIDE);
        due("feed(0)", g.feed(0), 1);
        due("feed(255)", g.feed(255), 2);
        for (int i = 3; i <= 240; i++) {
            due("feed " + i, g.feed(' '), i);
        }
        due("letter 241", g.feed(' '), FULL);
        due("letter 241, wrong", g.feed(256), OUTSIDE);
        due("letters", g.told(4), 240);
    }

    private static void promise3() {
        fine("", 0);
        fine("     ", 0);
        fine(" ".repeat(240), 0);
        fine(" ".repeat(237) + "g1;", 0);
        fine("g1;", 0);
        fine("  g  30 ;  ", 0);
        fine("g001;s 0 , 63,63 ,00,063 ; c1;w 5;c63;w0;", 1);
        fine("g30;" + SITTERS + SITTERS + "w0;w1;w2;w3;w4;c1;c1;c1;c1;c1;c1;", 6);

        GnatPortraits g = city(CITY);
        g.stand(0, 0);
        g.lamp(0, 4);
        g.eye(3);
        g.press(0, 0);
        g.dusk(1);
        g.wind(1);
        g.bats(1);
        g.rain(true);
        g.smoke(1, true);
        g.tellOf(0, true);
        g.seed(77);
        g.keep(0);
        g.eye(4);
        due("fault changes nothing", tell(g, "g1;x"), -11);
        int[] before = {9, 3, 3, 3, 0, 1, 4, 1, 24, 1, 2, 0, 1, 1, 3, 1};
        for (int what = 0; what < before.length; what++) {
            due("behind a fault: told(" + what + ")", g.told(what), before[what]);
        }
        due("capital again", tell(g, CITY), 3);
        int[] after = {9, 3, 3, 3, 0, 0, 3, 0, 0, 0, 0, 0, 0, 0, 7, 0};
        for (int what = 0; what < after.length; what++) {
            due("again: told(" + what + ")", g.told(what), after[what]);
        }
        due("again: lamp", g.window(0, 0), 0);
        due("again: nobody", g.window(0, 1), NONE);
        due("again: glass", g.glass(0), 0);
        due("again: album", g.album(0, 0), NONE);
        due("again: images", g.goBack(0), NOT);
        due("again: seed", g.seed(0), 77);
        due("empty text", g.capital(), 0);
        due("empty text: no gnats", g.told(0), 0);
        due("empty text: no capital", g.rain(true), NOT);
        due("empty text: no fault", g.fault(), NONE);
    }

    private static void promise4() {
        faulty("s1,1,1,1,1;", 1, 0);
        faulty("  w1;", 1, 2);
        faulty(";", 1, 0);
        faulty("7", 1, 0);
        faulty("G1;", 1, 0);
        faulty("g", 1, 1);
        faulty("g  ", 1, 3);
        faulty("g1", 1, 2);
        faulty("g1 ", 1, 3);
        faulty("g;", 1, 1);
        faulty("g-1;", 1, 1);
        faulty("g1 2;", 1, 3);
        faulty("g1,", 1, 2);
        faulty("g1;;", 1, 3);
        faulty("g1;5", 1, 3);
        faulty("g1;1234;", 1, 3);
        faulty("g1;\t", 1, 3);
        faulty("g1;s1,1,1,1;", 1, 11);
        faulty("g1;s1,1,1,1,1,", 1, 13);
        faulty("g1;s1;", 1, 5);
        faulty("g1;s,", 1, 4);
        faulty("g1;w1s", 1, 5);
        faulty("g1;w", 1, 4);
        faulty("g1;c 1 1;", 1, 7);
        faulty("g0;", 2, 1);
        faulty("g31;", 2, 1);
        faulty("g31x", 2, 1);
        faulty("g 0001;", 2, 2);
        faulty("g11111111111111111111111111;", 2, 1);
        faulty("g1;s0,0,64,0,0;", 2, 8);
        faulty("g1;s0,0,0,0, 999;", 2, 13);
        faulty("g1;w6;", 2, 4);
        faulty("g1;c0;", 2, 4);
        faulty("g1;c64;", 2, 4);
        faulty("g1;g", 3, 3);
        faulty("g1; g1;", 3, 4);
        faulty("g1;w1;w1;w1;w1;w1; w", 3, 19);
        faulty("g1;c1;c1;c1;c1;c1;c1;c", 3, 21);
        faulty("g1;" + SITTERS + SITTERS + "s1", 3, 3 + 2 * SITTERS.length());

        GnatPortraits g = new GnatPortraits();
        tell(g, "g1;x");
        due("fault stays", g.fault(), 3);
        g.feed('g');
        due("fault of the latest capital() alone", g.fault(), 3);
        g.feed('2');
        g.feed(';');
        due("told well", g.capital(), 0);
        due("no fault then", g.fault(), NONE);
    }

    private static void promise5() {
        GnatPortraits g = city("g4;" + SITTERS + "w0;w2;c7;");
        g.feed('g');
        g.stand(0, 0);
        g.stand(1, 1);
        g.dusk(1);
        g.wind(-2);
        g.eye(0);
        g.eye(29);
        g.smoke(1, true);
        g.bats(33);
        g.tellOf(0, true);
        g.tellOf(7, false);
        // bats over columns 0 and 5, wind 2 back: nothing of sitter 0 is left at window 0
        // all who come to dot 0 come to dot 7, too
        int[] due = {4, 3, 2, 1, 1, 1, 1, 33, 1 + (1 << 29), 0, 2, 0, 2, 2, 0, 8};
        for (int what = 0; what < due.length; what++) {
            due("told(" + what + ")", g.told(what), due[what]);
        }
        g.rain(true);
        due("rains", g.told(9), 1);
        g.dusk(1);
        g.wind(0);
        // four gnats: without an eye the square's second to fifth dot, and the arrow's first four by lamp 2
        due("cloud", g.told(11), dots(".XX...", "XX.X..", "X...X.", "...X.."));
        GnatPortraits nose = city("g30;s3,0,0,0,0;s6,0,0,0,0;w0;w0;");
        nose.stand(0, 0);
        nose.stand(1, 1);
        due("a nose in common", nose.told(11), dots("XXX..."));
        due("told(-1)", g.told(-1), OUTSIDE);
        due("told(16)", g.told(16), OUTSIDE);
        due("told(most)", g.told(MOST), OUTSIDE);
        due("told(least)", g.told(LEAST), OUTSIDE);
        GnatPortraits h = city("g9;" + SITTERS + "w0;");
        for (int i = 0; i < 20; i++) {
            h.wind(1);
            due("can be undone", h.told(15), Math.min(16, i + 1));
        }
    }

    private static void promise6() {
        GnatPortraits g = city(CITY);
        due("square", g.sitter(0, 0), SQUARE);
        due("arrow", g.sitter(1, 0), ARROW);
        due("ring", g.sitter(2, 0), RING);
        due("nowhere", g.sitter(1, 1), NONE);
        g.stand(1, 2);
        due("at 2", g.sitter(1, 1), 2);
        due("often at first", g.sitter(1, 2), 0);
        g.dusk(3);
        due("often", g.sitter(1, 2), 3);
        due("often of another", g.sitter(0, 2), 0);
        g.go(1);
        g.stand(0, 0);
        g.dusk(18);
        due("the oldest are lost", g.sitter(1, 2), 2);
        due("and often", g.sitter(0, 2), 18);
        due("sitter(3)", g.sitter(3, 0), UNKNOWN);
        due("sitter(-1)", g.sitter(-1, 9), UNKNOWN);
        due("sitter(least)", g.sitter(LEAST, 0), UNKNOWN);
        due("what 3", g.sitter(0, 3), OUTSIDE);
        due("what -1", g.sitter(0, -1), OUTSIDE);
    }

    private static void promise7() {
        GnatPortraits g = city("g30;s63,0,0,0,33;s63,1,0,0,0;w0;w5;w2;");
        int wide = dots("XXXXXX", "......", "......", "......", "X....X");
        due("lamp", g.window(1, 0), 5);
        due("nobody", g.window(0, 1), NONE);
        due("nothing", g.window(0, 2), 0);
        due("nobody is seen", g.window(0, 3), NONE);
        g.stand(0, 0);
        g.stand(1, 1);
        due("he", g.window(0, 1), 0);
        due("drawn", g.window(0, 2), wide);
        due("seen", g.window(0, 3), 0);
        due("lost beyond", g.window(1, 2), dots(".....X", ".....X"));
        due("seen as himself by little", g.window(1, 3), 1);
        g.wind(-3);
        due("seen as another", g.window(0, 3), 1);
        due("further back", g.window(0, 2), dots("XXX...", "......", "......", "......", "..X..."));
        due("lamp and wind", g.window(1, 2), dots("..XXXX", "..X..."));
        due("seen as himself", g.window(1, 3), 1);
        g.bats(4);
        due("bats", g.window(1, 2), dots("...XXX"));
        g.eye(4);
        due("eyes", g.window(1, 2), dots("...X.X"));
        g.smoke(1, true);
        due("smoke", g.window(1, 2), 0);
        due("smoke hides whom", g.window(1, 3), NONE);
        due("no smoke at the other", g.window(0, 2), dots("XX...."));
        g.rain(true);
        due("rain", g.window(0, 2), 0);
        due("window(3)", g.window(3, 0), UNKNOWN);
        due("window(-1)", g.window(-1, 7), UNKNOWN);
        due("what 4", g.window(0, 4), OUTSIDE);
        due("what -1", g.window(0, -1), OUTSIDE);

        GnatPortraits few = city("g3;s63,63,0,0,0;s0,0,0,0,0;w0;w0;");
        few.stand(0, 0);
        few.stand(1, 1);
        due("three gnats", few.window(0, 2), dots("XXX..."));
        few.bats(2);
        due("three gnats beside the bats", few.window(0, 2), dots("X.XX.."));
        due("an empty one is seen as nobody", few.window(1, 3), NONE);
    }

    private static void promise8() {
        GnatPortraits g = city(CITY);
        g.stand(0, 0);
        g.stand(2, 1);
        g.smoke(0, true);
        due("one is drawn", g.dusk(1), 1);
        due("window", g.album(0, 0), 1);
        due("sitter", g.album(0, 1), 2);
        due("drawn", g.album(0, 2), RING << 2);
        due("both", g.dusk(1), 3);
        due("latest", g.album(0, 0), 1);
        due("one ahead", g.album(1, 0), 0);
        due("one ahead, drawn", g.album(1, 2), SQUARE);
        due("no fourth", g.album(3, 0), NONE);
        due("below", g.album(-1, 2), NONE);
        due("far", g.album(MOST, 2), NONE);
        due("least", g.album(LEAST, 2), NONE);
        due("what 3", g.album(0, 3), OUTSIDE);
        due("what -1", g.album(0, -1), OUTSIDE);
        due("what 3 of none", g.album(9, 3), OUTSIDE);
        g.go(0);
        g.dusk(18);
        due("twenty", g.told(12), 20);
        due("oldest", g.album(19, 0), 0);
        g.dusk(1);
        due("oldest is lost", g.album(19, 0), 1);
        due("no more", g.album(20, 0), NONE);
    }

    private static void promise9() {
        GnatPortraits g = city(CITY);
        due("holds nothing", g.glass(0), 0);
        g.stand(1, 0);
        g.press(3, 0);
        due("holds", g.glass(3), ARROW);
        g.go(1);
        due("holds still", g.glass(3), ARROW);
        due("glass(4)", g.glass(4), UNKNOWN);
        due("glass(-1)", g.glass(-1), UNKNOWN);
    }

    private static void promise10() {
        GnatPortraits g = city(CITY);
        due("stands", g.stand(0, 0), NONE);
        due("stands there himself", g.stand(0, 0), NOT);
        due("another stands there", g.stand(1, 0), NOT);
        due("refused is not to be undone", g.told(15), 1);
        due("moves", g.stand(0, 2), 0);
        due("left it", g.window(0, 1), NONE);
        due("is there", g.window(2, 1), 0);
        due("no sitter", g.stand(3, 2), UNKNOWN);
        due("no sitter", g.stand(-1, 0), UNKNOWN);
        due("no window", g.stand(0, 3), UNKNOWN);
        due("no window", g.stand(0, -1), UNKNOWN);
    }

    private static void promise11() {
        GnatPortraits g = city(CITY);
        due("nowhere", g.go(0), NOT);
        g.stand(0, 1);
        due("goes", g.go(0), 1);
        due("gone", g.sitter(0, 1), NONE);
        due("gone already", g.go(0), NOT);
        due("nobody", g.go(3), UNKNOWN);
        due("NONE", g.go(-1), UNKNOWN);
        due("to be undone", g.told(15), 2);
    }

    private static void promise12() {
        GnatPortraits g = city(CITY);
        due("was", g.lamp(2, 5), 3);
        due("is", g.window(2, 0), 5);
        due("was then", g.lamp(2, 0), 5);
        due("6", g.lamp(2, 6), OUTSIDE);
        due("-1", g.lamp(2, -1), OUTSIDE);
        due("no window", g.lamp(3, 9), UNKNOWN);
        due("NONE", g.lamp(-1, 0), UNKNOWN);
        due("refused changes nothing", g.window(2, 0), 0);
    }

    private static void promise13() {
        GnatPortraits g = city("g1;");
        due("none", g.wind(-3), 3);
        due("-3", g.wind(3), 0);
        due("3", g.wind(3), 6);
        due("4", g.wind(4), OUTSIDE);
        due("-4", g.wind(-4), OUTSIDE);
        due("least", g.wind(LEAST), OUTSIDE);
        due("is", g.told(6), 6);
        due("no capital", new GnatPortraits().wind(3), NOT);
        due("no capital, out of bounds", new GnatPortraits().wind(4), OUTSIDE);
    }

    private static void promise14() {
        GnatPortraits g = city("g1;");
        due("none", g.bats(63), 0);
        due("all", g.bats(5), 63);
        due("64", g.bats(64), OUTSIDE);
        due("-1", g.bats(-1), OUTSIDE);
        due("are", g.told(7), 5);
        due("no capital", new GnatPortraits().bats(0), NOT);
        due("no capital, out of bounds", new GnatPortraits().bats(64), OUTSIDE);
    }

    private static void promise15() {
        GnatPortraits g = city("g1;");
        due("one", g.eye(0), 1);
        due("another", g.eye(29), 1 + (1 << 29));
        due("again", g.eye(0), 1 + (1 << 29));
        due("30", g.eye(30), OUTSIDE);
        due("-1", g.eye(-1), OUTSIDE);
        due("to be undone", g.told(15), 3);
        due("no capital", new GnatPortraits().eye(0), NOT);
        due("no capital, out of bounds", new GnatPortraits().eye(30), OUTSIDE);
    }

    private static void promise16() {
        GnatPortraits g = city("g1;");
        due("not yet", g.rain(true), 0);
        due("it did", g.rain(true), 1);
        due("it did still", g.rain(false), 1);
        due("no more", g.rain(false), 0);
        due("no capital", new GnatPortraits().rain(false), NOT);
    }

    private static void promise17() {
        GnatPortraits g = city(CITY);
        due("none", g.smoke(2, true), 0);
        due("there was", g.smoke(2, true), 1);
        due("not there", g.smoke(0, true), 0);
        due("set", g.told(10), 5);
        due("there was still", g.smoke(2, false), 1);
        due("set", g.told(10), 1);
        due("no window", g.smoke(3, true), UNKNOWN);
        due("NONE", g.smoke(-1, true), UNKNOWN);
    }

    private static void promise18() {
        GnatPortraits g = city(CITY);
        g.stand(0, 0);
        g.stand(1, 1);
        due("held nothing", g.press(0, 0), 0);
        due("held the square", g.press(0, 1), SQUARE);
        due("holds the arrow", g.glass(0), ARROW << 2);
        g.rain(true);
        due("held the arrow", g.press(0, 0), ARROW << 2);
        due("holds nothing in the rain", g.glass(0), 0);
        due("no glass", g.press(4, 0), UNKNOWN);
        due("no glass", g.press(-1, 0), UNKNOWN);
        due("no window", g.press(0, 3), UNKNOWN);
        due("no window", g.press(0, -1), UNKNOWN);
    }

    private static void promise19() {
        GnatPortraits g = city(CITY);
        g.stand(0, 0);
        g.wind(2);
        g.bats(32);
        g.smoke(1, true);
        g.eye(20);
        due("one", g.dusk(1), 1);
        due("wind", g.told(6), 4);
        due("bats", g.told(7), 0);
        due("smoke", g.told(10), 0);
        due("eyes stay", g.told(8), 1 << 20);
        g.rain(true);
        due("rain: none is kept", g.dusk(1), 1);
        due("rain ends", g.told(9), 0);
        due("wind is gone", g.told(6), 3);
        due("eyes stay at the second", g.told(8), 1 << 20);
        g.wind(-1);
        due("three", g.dusk(1), 2);
        due("eyes are over", g.told(8), 0);
        due("wind from below", g.told(6), 3);
        due("dusks", g.told(5), 3);
        g.eye(1);
        g.dusk(2);
        due("till the next third", g.told(8), 2);
        g.dusk(1);
        due("over again", g.told(8), 0);
        g.wind(3);
        g.dusk(2);
        due("one a dusk", g.told(6), 4);
        due("0", g.dusk(0), OUTSIDE);
        due("61", g.dusk(61), OUTSIDE);
        due("least", g.dusk(LEAST), OUTSIDE);
        due("60", g.dusk(60), 20);
        due("no capital", new GnatPortraits().dusk(1), NOT);
        due("no capital, out of bounds", new GnatPortraits().dusk(0), OUTSIDE);
        GnatPortraits old = city("g1;");
        for (int i = 0; i < 150; i++) {
            old.dusk(60);
        }
        due("9000", old.told(5), 9000);
        due("at 9000", old.dusk(1), 0);
        due("at 9001", old.dusk(1), FULL);
        due("at 9001, by draws", old.drift(1), FULL);
        due("at 9001, out of bounds", old.dusk(61), OUTSIDE);
        due("9001", old.told(5), 9001);
    }

    /** The seed ahead of which the next draw of 6 is this. */
    private static int seedFor(int draw) {
        for (int seed = 0; seed < 100000; seed++) {
            if ((next(seed) >> 16) % 6 == draw) {
                return seed;
            }
        }
        return 0;
    }

    private static int next(int seed) {
        return (int) ((seed * 1103515245L + 12345L) % 2147483648L);
    }

    private static int drawOf(int seed, int n) {
        return (seed >> 16) % n;
    }

    private static void promise20() {
        for (int draw = 0; draw < 6; draw++) {
            GnatPortraits g = city("g30;s63,63,63,63,63;w0;");
            g.stand(0, 0);
            int seed = seedFor(draw);
            g.seed(seed);
            int one = next(seed);
            int two = next(one);
            int came = ALL;
            if (draw == 0) {
                int by = drawOf(two, 7) - 3;
                String row = by < 0 ? "XXXXXX".substring(-by) : "......".substring(6 - by) + "XXXXXX".substring(by);
                came = dots(row, row, row, row, row);
            } else if (draw == 1) {
                for (int dot = 0; dot < 30; dot++) {
                    came &= (drawOf(two, 64) >> (dot % 6) & 1) == 1 ? ~(1 << dot) : -1;
                }
            } else if (draw == 2) {
                came &= ~(1 << drawOf(two, 30));
            } else if (draw == 3) {
                came = 0;
            }
            due("draw " + draw, g.drift(1), came == 0 ? 0 : 1);
            due("draw " + draw + " draws", g.album(0, 2), came == 0 ? NONE : came);
            due("draw " + draw + " takes eyes", g.told(8), draw == 2 ? ALL & ~came : 0);
            due("draw " + draw + ", dusks", g.told(5), 1);
            int last = draw < 3 ? two : draw == 4 ? next(two) : one;
            due("draw " + draw + ", seed", g.seed(0), last);
        }
        standsByDraw();
        GnatPortraits empty = city("g1;w0;");
        empty.seed(seedFor(4));
        empty.drift(1);
        due("no sitters, no draw", empty.seed(0), next(seedFor(4)));
        GnatPortraits blind = city("g30;s63,63,63,63,63;w0;");
        blind.eye(drawOf(next(next(seedFor(2))), 30));
        int eyes = blind.told(8);
        blind.seed(seedFor(2));
        blind.drift(1);
        due("an eye that was taken already", blind.told(8), eyes);
        GnatPortraits g = city(CITY);
        due("0", g.drift(0), OUTSIDE);
        due("61", g.drift(61), OUTSIDE);
        g.drift(60);
        due("one undoing", g.told(15), 1);
        due("dusks", g.told(5), 60);
        due("no capital", new GnatPortraits().drift(1), NOT);
        due("no capital, out of bounds", new GnatPortraits().drift(-1), OUTSIDE);
    }

    private static void standsByDraw() {
        GnatPortraits g = city(CITY);
        int seed = seedFor(4);
        int second = next(next(seed));
        int s = drawOf(second, 3);
        int w = drawOf(next(second), 3);
        g.seed(seed);
        g.drift(1);
        due("stands by draw", g.window(w, 1), s);
        g.go(s);
        g.stand((s + 1) % 3, w);
        g.stand(s, (w + 1) % 3);
        g.seed(seed);
        g.drift(1);
        due("somebody stands there", g.window(w, 1), (s + 1) % 3);
        due("he stays", g.window((w + 1) % 3, 1), s);
        due("drawn for all the same", g.seed(seed), next(next(next(seed))));
        g.go((s + 1) % 3);
        g.drift(1);
        due("comes from elsewhere", g.sitter(s, 1), w);
    }

    private static void promise21() {
        GnatPortraits g = city(CITY);
        due("none", g.undo(), NOT);
        g.stand(0, 0);
        g.stand(0, 1);
        g.go(0);
        g.stand(0, 0);
        g.lamp(0, 1);
        g.wind(2);
        g.bats(1);
        g.eye(5);
        g.rain(true);
        g.rain(false);
        g.smoke(0, true);
        g.smoke(0, false);
        g.press(0, 0);
        g.dusk(3);
        g.seed(9);
        g.drift(10);
        int seed = g.seed(0);
        g.seed(seed);
        due("dusks", g.told(5), 13);
        due("drift", g.undo(), 14);
        due("dusks are undone", g.told(5), 3);
        due("the album too", g.told(12), 3);
        due("the seed stays", g.seed(0), seed);
        due("dusk", g.undo(), 13);
        due("dusk: all three", g.told(5), 0);
        due("bats are back", g.told(7), 1);
        due("wind is back", g.told(6), 5);
        due("eyes are back", g.told(8), 32);
        due("the album is empty", g.album(0, 0), NONE);
        due("pressed", g.glass(0), dots("...XX.", "...XX.", "...XX."));
        due("press", g.undo(), 12);
        due("holds nothing", g.glass(0), 0);
        due("no smoke", g.undo(), 11);
        due("smoke is back", g.told(10), 1);
        due("smoke", g.undo(), 10);
        due("smoke is gone", g.told(10), 0);
        due("no rain", g.undo(), 9);
        due("rain is back", g.told(9), 1);
        due("rain", g.undo(), 8);
        due("eye", g.undo(), 7);
        due("eye is back", g.told(8), 0);
        due("bats", g.undo(), 6);
        due("bats are gone", g.told(7), 0);
        due("wind", g.undo(), 5);
        due("wind is gone", g.told(6), 3);
        due("lamp", g.undo(), 4);
        due("lamp is back", g.window(0, 0), 0);
        due("stand", g.undo(), 3);
        due("nowhere", g.sitter(0, 1), NONE);
        due("go", g.undo(), 2);
        due("at 1", g.sitter(0, 1), 1);
        due("stand from 0", g.undo(), 1);
        due("at 0", g.sitter(0, 1), 0);
        due("first", g.undo(), 0);
        due("as at first", g.sitter(0, 1), NONE);
        due("no more", g.undo(), NOT);
        for (int i = 0; i < 17; i++) {
            g.lamp(0, i % 6);
        }
        for (int i = 15; i >= 0; i--) {
            due("sixteen", g.undo(), i);
        }
        due("the oldest is lost", g.undo(), NOT);
        g.lamp(1, 4);
        g.lamp(1, 5);
        g.tellOf(3, true);
        due("telling is none", g.undo(), 1);
        due("undone", g.window(1, 0), 4);
        due("told of stays", g.told(13), 1);
    }

    private static void promise22() {
        GnatPortraits g = city(CITY);
        due("himself", g.like(0, SQUARE), 30);
        due("nothing", g.like(0, 0), 24);
        due("all", g.like(2, ALL), 8);
        due("no sitter", g.like(3, -1), UNKNOWN);
        due("NONE", g.like(-1, 0), UNKNOWN);
        due("below", g.like(0, -1), OUTSIDE);
        due("above", g.like(0, ALL + 1), OUTSIDE);
    }

    private static void promise23() {
        GnatPortraits g = city(CITY);
        due("ring", g.seenAs(RING), 2);
        due("arrow", g.seenAs(ARROW | 8), 1);
        due("below", g.seenAs(-1), OUTSIDE);
        due("above", g.seenAs(ALL + 1), OUTSIDE);
        due("of like ones", city("g1;s0,0,1,0,0;s1,0,0,0,0;s2,0,0,0,0;").seenAs(3), 1);
        due("of like ones all", city("g1;s1,0,0,0,0;s1,0,0,0,0;").seenAs(3), 0);
        due("none", city("g1;").seenAs(3), NONE);
        due("not like at all", city("g1;s0,0,0,0,0;").seenAs(ALL), 0);
        due("no capital, outside", new GnatPortraits().seenAs(-1), OUTSIDE);
    }

    private static void promise24() {
        GnatPortraits g = city(CITY);
        due("lamp 0", g.bestLamp(2, 1, 0), 0);
        due("all like", g.bestLamp(2, 1, 1), 30);
        g.wind(-2);
        due("against wind", g.bestLamp(2, 1, 0), 2);
        due("all like again", g.bestLamp(2, 1, 1), 30);
        g.wind(3);
        // by lamp 0 all six are beside him; by 2 three are lost; by 3 and more all are
        due("too much wind", g.bestLamp(0, 0, 0), 3);
        due("nothing is most like", g.bestLamp(0, 0, 1), 24);
        g.wind(0);
        g.eye(0);
        g.rain(true);
        g.smoke(0, true);
        due("an eye, whatever rain", g.bestLamp(0, 0, 0), 0);
        due("an eye is missed", g.bestLamp(0, 0, 1), 29);
        g.bats(3);
        due("bats", g.bestLamp(0, 0, 0), 0);
        due("bats: nothing is left", g.bestLamp(0, 0, 1), 24);
        GnatPortraits away = city("g9;s1,0,0,0,0;w0;");
        away.wind(1);
        // by lamps 0 to 4 he comes beside himself, by 5 not at all
        due("best away", away.bestLamp(0, 0, 0), 5);
        due("best away, how much", away.bestLamp(0, 0, 1), 29);
        due("few gnats", city("g2;s63,0,0,0,0;w3;").bestLamp(0, 0, 1), 26);
        due("few gnats, lamp", city("g2;s63,0,0,0,0;w3;").bestLamp(0, 0, 0), 0);
        due("no window", g.bestLamp(3, 0, 5), UNKNOWN);
        due("no sitter", g.bestLamp(0, 3, 0), UNKNOWN);
        due("NONE", g.bestLamp(-1, -1, 0), UNKNOWN);
        due("what 2", g.bestLamp(0, 0, 2), OUTSIDE);
        due("what -1", g.bestLamp(0, 0, -1), OUTSIDE);
    }

    private static void promise25() {
        GnatPortraits g = city("g1;s6,0,0,0,0;s3,0,0,0,0;s0,0,0,0,0;s32,0,0,0,32;");
        due("two columns", g.who(dots("..XX.."), 0), 2);
        due("sitters", g.who(dots("..XX.."), 1), 3);
        due("first", g.who(dots("..XX.."), 2), 4);
        // sitter 0 as far as he comes: shift -1; sitter 1 shift 0
        due("back", g.who(dots("XX...."), 2), 2);
        // a half: sitter 0 by -2 and 4, sitter 1 by -1 and 5
        due("first column", g.who(dots("X....."), 0), 2);
        due("last column", g.who(dots(".....X"), 2), 7);
        // nothing: 0 by -3, 5 to 8; 1 by -3, -2, 6 to 8; 2 by all; 3 by 1 to 8
        due("nothing", g.who(0, 0), 5 + 5 + 12 + 8);
        due("nothing: all", g.who(0, 1), 15);
        due("nothing: first", g.who(0, 2), 0);
        due("himself", g.who(dots(".....X", "", "", "", ".....X"), 2), 303);
        due("nobody", g.who(ALL, 0), 0);
        due("nobody at all", g.who(ALL, 1), 0);
        due("nobody first", g.who(ALL, 2), NONE);
        due("what 3", g.who(0, 3), OUTSIDE);
        due("what -1", g.who(0, -1), OUTSIDE);
        due("below", g.who(-1, 0), OUTSIDE);
        due("above", g.who(ALL + 1, 0), OUTSIDE);
    }

    private static void promise26() {
        GnatPortraits g = city("g1;s1,0,0,0,0;s3,0,0,0,0;s32,1,0,0,0;");
        // 0 at c and 1 at c' cover X.XX..: 0 at 0, 1 at 2
        due("one way", g.parted(dots("X.XX.."), 0), 1);
        due("one way, first", g.parted(dots("X.XX.."), 1), 102);
        // .XX...: 1 at 1, 0 at 1 or 2
        due("two ways", g.parted(dots(".XX..."), 0), 2);
        due("two ways, first", g.parted(dots(".XX..."), 1), 111);
        // 2 by a shift of 2 is one dot of row 1 alone
        due("with the third", g.parted(dots("...X..", "..X..."), 0), 1);
        due("with the third, first", g.parted(dots("...X..", "..X..."), 1), 232);
        due("0 and 2, 1 and 2", g.parted(dots(".....X", "X....."), 0), 2);
        due("the lesser pair first", g.parted(dots(".....X", "X....."), 1), 250);
        due("not by one alone", g.parted(dots("X....."), 0), 0);
        due("none first", g.parted(dots("X....."), 1), NONE);
        due("nothing", g.parted(0, 0), 0);
        due("two that are drawn alike", city("g1;s1,0,0,0,0;s1,0,0,0,0;").parted(1, 0), 1);
        due("one has no other", city("g1;s1,0,0,0,0;").parted(1, 0), 0);
        due("what 2", g.parted(0, 2), OUTSIDE);
        due("what -1", g.parted(0, -1), OUTSIDE);
        due("below", g.parted(-1, 0), OUTSIDE);
        due("above", g.parted(ALL + 1, 0), OUTSIDE);
    }

    private static void placesDue(String what, GnatPortraits g, int... due) {
        int count = 0;
        for (int w = 0; w < due.length; w++) {
            due(what + ": window " + w, g.places(w), due[w]);
            count += due[w] == NONE ? 0 : 1;
        }
        due(what + ": how many", g.places(NONE), count);
    }

    private static void promise27() {
        placesDue("none", city("g1;"));
        placesDue("no sitters", city("g1;w1;"), NONE);
        placesDue("all", city("g30;s1,0,0,0,0;s2,0,0,0,0;w0;w0;"), 0, 1);
        placesDue("an empty one", city("g30;s0,0,0,0,0;s2,0,0,0,0;w0;w0;"), 1, NONE);
        placesDue("lost beyond", city("g30;s32,0,0,0,0;s1,0,0,0,0;w1;w0;"), 1, 0);
        placesDue("one dot", city("g30;s1,0,0,0,0;s1,0,0,0,0;w0;w0;w1;"), 0, NONE, 1);
        // sitter 0 at window 0 would spoil both others
        placesDue("the most", city("g30;s3,0,0,0,0;s1,0,0,0,0;s2,0,0,0,0;w0;w0;"), 1, 2);
        placesDue("a spoilt one", city("g30;s63,0,0,0,0;s63,0,0,0,0;w0;w0;w5;"), 0, NONE, NONE);
        placesDue("few gnats", city("g1;s63,0,0,0,0;s62,0,0,0,0;w0;w0;w1;"), 0, 1, NONE);

        GnatPortraits g = city("g30;s1,0,0,0,0;s1,0,0,0,0;w0;w1;");
        placesDue("beside", g, 0, 1);
        g.bats(2);
        placesDue("bats", g, 0, NONE);
        g.rain(true);
        g.smoke(0, true);
        g.stand(1, 0);
        placesDue("whatever rain, smoke, who stands", g, 0, NONE);
        g.bats(0);
        g.eye(0);
        placesDue("eyes", g, NONE, 0);
        g.wind(1);
        placesDue("wind", g, 0, 1);
        g.lamp(1, 0);
        placesDue("lamps as now", g, 0, NONE);
        due("no window", g.places(2), UNKNOWN);
        due("below NONE", g.places(-2), UNKNOWN);
    }

    private static void promise28() {
        GnatPortraits g = city(CITY);
        due("apart", g.apart(0, 1, 0), dots(".X....", "X.....", "XXX...", ".X....", "X....."));
        due("how many", g.apart(0, 1, 1), 7);
        due("common", g.apart(0, 1, 2), dots("X.....", ".X...."));
        due("the other way", g.apart(1, 0, 1), 7);
        due("alike", city("g1;s1,1,1,1,1;s1,1,1,1,1;").apart(0, 1, 1), 0);
        due("twice", g.apart(1, 1, 0), UNKNOWN);
        due("nobody", g.apart(0, 3, 0), UNKNOWN);
        due("nobody", g.apart(-1, 0, 9), UNKNOWN);
        due("what 3", g.apart(0, 1, 3), OUTSIDE);
        due("what -1", g.apart(0, 1, -1), OUTSIDE);
    }

    private static void promise29() {
        GnatPortraits g = new GnatPortraits();
        due("ring", g.turned(RING, 0), dots("......", "......", ".X...."));
        due("corner", g.turned(dots(".X....", "X....."), 0), 1);
        due("last corner", g.turned(dots("", "", "", ".....X", "....X."), 0), 1 << 29);
        due("edge", g.turned(dots("......", "X.....", ".X....", "X....."), 0), dots("", "", "X....."));
        due("rows do not go on", g.turned(dots("....X.", ".....X", ".X...."), 0), dots(".....X"));
        due("below is asked for", g.turned(dots(".X....", "......"), 0), 0);
        due("above is asked for", g.turned(dots("......", ".X....", "X....."), 0), 0);
        due("above it is", g.turned(dots("X.....", ".X....", "X....."), 0), dots("", "X....."));
        due("last row", g.turned(dots("", "", "", "X.....", ".X...."), 0), 1 << 24);
        due("two", g.turned(dots(".X.X..", "X.X...", ".X...."), 0), dots("X.X...", ".X...."));
        due("nothing", g.turned(0, 0), 0);
        due("all", g.turned(ALL, 0), 0);
        due("mirror", g.turned(dots("X.....", ".XX...", "", "", "....XX"), 1),
            dots(".....X", "...XX.", "", "", "XX...."));
        due("mirror of all", g.turned(ALL, 1), ALL);
        due("what 2", g.turned(0, 2), OUTSIDE);
        due("what -1", g.turned(0, -1), OUTSIDE);
        due("below", g.turned(-1, 1), OUTSIDE);
        due("above", g.turned(ALL + 1, 1), OUTSIDE);
    }

    private static void promise30() {
        GnatPortraits g = city("g1;s7,0,0,0,0;s56,0,0,0,0;s63,0,0,0,0;c7;c56;c8;");
        // by the left half 0 and 2 are all like XXX, 0 is less; by the right 0 is nothing, too
        due("left: 0", g.votes(dots("XXX..."), 0), 3);
        due("left: elected", g.votes(dots("XXX..."), NONE), 0);
        due("all: left 0, right 1, 1", g.votes(dots("XXXXXX"), 1), 2);
        due("all: left 0", g.votes(dots("XXXXXX"), 0), 1);
        due("all: 2 never", g.votes(dots("XXXXXX"), 2), 0);
        due("all: elected", g.votes(dots("XXXXXX"), NONE), 1);
        GnatPortraits even = city("g1;s0,0,0,0,0;s7,0,0,0,0;s56,0,0,0,0;c7;c56;");
        due("of like ones the least", even.votes(dots("XXXXXX"), NONE), 1);
        GnatPortraits alone = city("g1;s1,0,0,0,0;");
        due("no critics", alone.votes(1, NONE), NONE);
        due("no critics, none says", alone.votes(1, 0), 0);
        due("no sitters", city("g1;c1;").votes(1, NONE), NONE);
        due("nobody", g.votes(-1, 3), UNKNOWN);
        due("below NONE", g.votes(0, -2), UNKNOWN);
        due("below", g.votes(-1, NONE), OUTSIDE);
        due("above", g.votes(ALL + 1, 0), OUTSIDE);
    }

    private static void promise31() {
        GnatPortraits g = new GnatPortraits();
        due("none", g.clear(0, 0), 1000000000);
        due("0", g.clear(1, 0), 0);
        due("one", g.clear(1, 37), 370000000);
        due("three", g.clear(3, 90), 729000000);
        due("sure", g.clear(60, 100), 1000000000);
        // 0.99 ^ 5 is 0.9509900499, cut at each step
        due("cut", g.clear(5, 99), 950990049);
        // 10^9, 10^7, 10^5, 1000, 10, 0
        due("cut to nothing", g.clear(5, 1), 0);
        due("nearly", g.clear(4, 1), 10);
        due("-1", g.clear(-1, 50), OUTSIDE);
        due("61", g.clear(61, 50), OUTSIDE);
        due("q -1", g.clear(1, -1), OUTSIDE);
        due("q 101", g.clear(1, 101), OUTSIDE);
    }

    private static void promise32() {
        GnatPortraits g = city("g1;s1,0,0,0,0;s3,0,0,0,0;s0,1,0,0,0;w0;");
        g.bats(63);
        g.wind(3);
        g.eye(1);
        g.rain(true);
        due("nothing: all", g.told(14), 7);
        due("one", g.tellOf(1, true), 1);
        due("one: may be", g.told(14), 3);
        due("two", g.tellOf(2, false), 2);
        due("two: may be", g.told(14), 3);
        due("three, however few gnats", g.tellOf(0, true), 3);
        due("three: may be", g.told(14), 2);
        due("again", g.tellOf(0, true), 4);
        due("what cannot be", g.tellOf(0, false), 5);
        due("nobody", g.told(14), 0);
        due("six", g.tellOf(29, false), 6);
        due("seven", g.tellOf(29, false), FULL);
        due("30", g.tellOf(30, true), OUTSIDE);
        due("-1", g.tellOf(-1, true), OUTSIDE);
        due("told", g.told(13), 6);
        GnatPortraits twice = city("g30;s1,0,0,0,0;");
        twice.tellOf(0, false);
        twice.tellOf(0, false);
        twice.tellOf(0, true);
        due("not drawn, told twice", twice.told(14), 0);
        GnatPortraits far = city("g30;s1,0,0,0,0;");
        far.tellOf(5, true);
        due("by lamp 5", far.told(14), 1);
        GnatPortraits none = city("g30;s1,0,0,0,0;");
        for (int column = 0; column < 5; column++) {
            none.tellOf(column, false);
        }
        due("lamp 5 is left", none.told(14), 1);
        none.tellOf(5, false);
        due("none is left", none.told(14), 0);
    }

    private static void promise33() {
        GnatPortraits g = city("g1;s1,0,0,0,0;s3,0,0,0,0;");
        // of twelve pairs dot 0 is in two (0 by 0, 1 by 0), dot 1 in three: 0 by 1, 1 by 0, 1 by 1; so for all to 5
        due("the least of like ones", g.ask(), 1);
        g.tellOf(1, true);
        // left: 0 by 1, 1 by 0, 1 by 1: dot 0 parts one from two, dot 2 too
        due("next", g.ask(), 0);
        g.tellOf(0, true);
        due("one pair is left", g.ask(), NONE);
        g.tellOf(0, false);
        due("none is left", g.ask(), NONE);
        due("no capital", new GnatPortraits().ask(), NONE);
        // the two alike can never be told apart
        GnatPortraits alike = city("g1;s1,0,0,0,0;s1,0,0,0,0;");
        alike.tellOf(3, true);
        due("alike", alike.ask(), NONE);
        // 63 by x: dot c is in x = 0 .. c; dot 2 parts three from three
        due("halves", city("g1;s63,63,0,0,0;").ask(), 2);
    }

    private static void promise34() {
        GnatPortraits g = city(CITY);
        due("nothing", g.tear(), 0);
        for (int i = 0; i < 6; i++) {
            g.tellOf(29, true);
        }
        g.tellOf(3, false);
        due("six", g.tear(), 6);
        due("none", g.told(13), 0);
        due("all may be", g.told(14), 7);
        due("nothing again", g.tear(), 0);
        due("one", g.tellOf(0, true), 1);
    }

    private static void promise35() {
        GnatPortraits g = new GnatPortraits();
        due("at first", g.seed(MOST), 0);
        due("most", g.seed(5), MOST);
        due("below", g.seed(-1), OUTSIDE);
        due("least", g.seed(LEAST), OUTSIDE);
        due("stays", g.seed(0), 5);
        GnatPortraits h = city(CITY);
        h.seed(MOST);
        h.drift(1);
        // (2^31 - 1) times 1103515245, and 12345, left over by 2^31: 2^31 less 1103515245, and 12345
        int one = 1043980748;
        due("by hand", next(MOST), one);
        due("draw of 6 is 5", drawOf(one, 6), 5);
        due("one draw", h.seed(0), one);
    }

    private static void promise36() {
        GnatPortraits g = city(CITY);
        g.wind(1);
        due("keeps", g.keep(0), 1);
        due("nothing can be undone", g.told(15), 0);
        due("nothing to undo", g.undo(), NOT);
        g.wind(2);
        due("no image", g.keep(2), UNKNOWN);
        due("NONE", g.keep(-1), UNKNOWN);
        due("refused changes nothing", g.told(15), 1);
        due("the other", g.keep(1), 1);
        g.wind(3);
        g.goBack(0);
        due("0", g.told(6), 4);
        g.goBack(1);
        due("1", g.told(6), 5);
        g.wind(-3);
        g.keep(1);
        g.wind(0);
        g.goBack(1);
        due("in place of the former", g.told(6), 0);
    }

    private static void promise37() {
        GnatPortraits g = city(CITY);
        due("not kept", g.goBack(1), NOT);
        due("no image", g.goBack(2), UNKNOWN);
        due("NONE", g.goBack(-1), UNKNOWN);
        g.stand(0, 0);
        g.stand(1, 1);
        g.lamp(0, 1);
        g.press(2, 0);
        g.dusk(1);
        g.wind(2);
        g.bats(9);
        g.eye(7);
        g.rain(true);
        g.smoke(2, true);
        g.seed(123);
        g.keep(1);
        g.go(0);
        g.stand(2, 0);
        g.lamp(0, 5);
        g.rain(false);
        g.drift(60);
        g.press(2, 1);
        g.tellOf(2, true);
        due("goes back", g.goBack(1), 1);
        // what was told of since stays: dot 2 may be of the square and the arrow
        int[] due = {9, 3, 3, 3, 0, 1, 5, 9, 128, 1, 4, 0, 2, 1, 3, 0};
        for (int what = 0; what < due.length; what++) {
            due("back: told(" + what + ")", g.told(what), due[what]);
        }
        due("back: lamp", g.window(0, 0), 1);
        due("back: who", g.window(0, 1), 0);
        due("back: glass", g.glass(2), dots(".XX...", ".XX...", ".XX..."));
        due("back: album", g.album(0, 1), 1);
        due("back: seed", g.seed(1), 123);
        due("back: nothing can be undone", g.undo(), NOT);
        g.dusk(5);
        due("again", g.goBack(1), 1);
        due("again: dusks", g.told(5), 1);
        due("again: the seed", g.seed(0), 123);
        tell(g, CITY);
        due("gone with the capital", g.goBack(1), NOT);
    }
}
