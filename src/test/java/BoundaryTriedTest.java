import java.util.function.Supplier;
import java.util.function.ToIntFunction;

/** Boundary cases of what is tried and told of: the document's section 3, promises 22 to 34, a test for each sentence. */
public final class BoundaryTriedTest {
    private static final int NONE = Scenes.NONE;
    private static final int UNKNOWN = Scenes.UNKNOWN;
    private static final int OUTSIDE = Scenes.OUTSIDE;
    private static final int FULL = Scenes.FULL;
    private static final int ALL = Scenes.ALL;
    private static final int LEAST = Scenes.LEAST;
    private static final int MOST = Scenes.MOST;
    /** What is beyond the three sitters, windows of the busy scene. */
    private static final int[] BEYOND_THREE = {LEAST, -2, -1, 3, 4, 5, 6, MOST};
    /** What is no set of dots. */
    private static final int[] NO_SETS = {LEAST, -1, ALL + 1, MOST};

    private static final Checks CHECKS = new Checks();

    public static void main(String[] args) throws ReflectiveOperationException {
        CHECKS.runAll(BoundaryTriedTest.class);
    }

    private static void due(String call, int got, int want) {
        CHECKS.due(call, got, want);
    }

    /** A refused call, or one that is tried alone: the answer is as due and nothing changes. */
    private static void still(String call, Supplier<GnatPortraits> scene, ToIntFunction<GnatPortraits> made, int want) {
        Scenes.changesNothing(CHECKS, call, scene, made, want);
    }

    // ---- promise 22

    static void promise22SetsAre0To1073741823() {
        GnatPortraits g = Scenes.told("g1;s63,63,63,63,63;s0,0,0,0,0;");
        due("all of all", g.like(0, ALL), 30);
        due("nothing of all", g.like(0, 0), 0);
        due("all of nothing", g.like(1, ALL), 0);
        due("nothing of nothing", g.like(1, 0), 30);
        due("the last dot", g.like(1, 1 << 29), 29);
        for (int set : NO_SETS) {
            still("like(0, " + set + ")", Scenes::busy, x -> x.like(0, set), OUTSIDE);
        }
    }

    static void promise22SittersThatThereAre() {
        due("the last", Scenes.told(Scenes.CROWD).like(5, 0), 29);
        due("behind the last", Scenes.told(Scenes.CROWD).like(6, 0), UNKNOWN);
        for (int s : BEYOND_THREE) {
            still("like(" + s + ", 0)", Scenes::busy, g -> g.like(s, 0), UNKNOWN);
            still("unknown comes first", Scenes::busy, g -> g.like(s, -1), UNKNOWN);
        }
        still("no capital", Scenes::bare, g -> g.like(0, 0), UNKNOWN);
        still("no capital, unknown comes first", Scenes::bare, g -> g.like(0, ALL + 1), UNKNOWN);
    }

    static void promise22ByTheOutlineAsTold() {
        GnatPortraits g = Scenes.told("g1;s63,0,0,0,0;w5;");
        g.stand(0, 0);
        g.wind(3);
        g.bats(63);
        g.eye(0);
        g.rain(true);
        due("whatever is drawn", g.like(0, 63), 30);
    }

    // ---- promise 23

    static void promise23SetsAre0To1073741823() {
        GnatPortraits g = Scenes.told("g1;s0,0,0,0,0;s63,63,63,63,63;");
        due("nothing", g.seenAs(0), 0);
        due("all", g.seenAs(ALL), 1);
        for (int set : NO_SETS) {
            still("seenAs(" + set + ")", Scenes::busy, x -> x.seenAs(set), OUTSIDE);
            still("seenAs(" + set + "), no capital", Scenes::bare, x -> x.seenAs(set), OUTSIDE);
        }
    }

    static void promise23NoneIfThereAreNoSitters() {
        still("no capital", Scenes::bare, g -> g.seenAs(0), NONE);
        due("a capital without", Scenes.told("g1;w0;c1;").seenAs(ALL), NONE);
    }

    static void promise23OfLikeOnesTheLeast() {
        GnatPortraits g = Scenes.told("g1;s7,0,0,0,0;s1,0,0,0,0;s2,0,0,0,0;s1,0,0,0,0;s1,0,0,0,0;s3,0,0,0,0;");
        due("three alike", g.seenAs(1), 1);
        due("the last alone", g.seenAs(3), 5);
        // 7 misses one, 3 one too many: one apart each; 1 and 2 are two and more apart
        due("one dot more, one less", g.seenAs(Scenes.dots("XX.X..")), 5);
        due("the first and the last", g.seenAs(Scenes.dots("X.X...")), 0);
        GnatPortraits unlike = Scenes.told("g1;s63,63,63,63,63;s63,63,63,63,63;");
        due("not like at all, yet the least", unlike.seenAs(0), 0);
    }

    // ---- promise 24

    static void promise24WindowsAndSittersThatThereAre() {
        GnatPortraits g = Scenes.told(Scenes.CROWD);
        due("the last", g.bestLamp(4, 5, 1), 30);
        due("behind the last window", g.bestLamp(5, 5, 1), UNKNOWN);
        due("behind the last sitter", g.bestLamp(4, 6, 1), UNKNOWN);
        for (int no : BEYOND_THREE) {
            still("bestLamp(" + no + ", 0, 0)", Scenes::busy, x -> x.bestLamp(no, 0, 0), UNKNOWN);
            still("bestLamp(0, " + no + ", 0)", Scenes::busy, x -> x.bestLamp(0, no, 0), UNKNOWN);
            still("unknown comes first", Scenes::busy, x -> x.bestLamp(0, no, 2), UNKNOWN);
            still("unknown comes first", Scenes::busy, x -> x.bestLamp(no, 0, -1), UNKNOWN);
        }
        still("no capital", Scenes::bare, x -> x.bestLamp(0, 0, 0), UNKNOWN);
    }

    static void promise24WhatIs0Or1() {
        for (int what : new int[] {LEAST, -1, 2, MOST}) {
            still("what " + what, Scenes::busy, x -> x.bestLamp(0, 0, what), OUTSIDE);
        }
    }

    static void promise24LampsAre0To5() {
        int[] lamps = {3, 2, 1, 0, 5, 5, 5};
        int[] much = {30, 30, 30, 30, 29, 29, 29};
        for (int wind = -3; wind <= 3; wind++) {
            // without wind by lamp 0; against it as many further; with it the best is to be lost
            GnatPortraits g = Scenes.told("g30;s1,0,0,0,0;w2;");
            g.wind(wind);
            // by wind 1 lamp 5 comes to column 6, by 2 lamp 4, by 3 lamp 3 does
            int due = wind <= 0 ? lamps[wind + 3] : 6 - wind;
            due("lamp by wind " + wind, g.bestLamp(0, 0, 0), due);
            due("how much by wind " + wind, g.bestLamp(0, 0, 1), much[wind + 3]);
        }
    }

    static void promise24OfLikeOnesTheLeast() {
        GnatPortraits empty = Scenes.told("g30;s0,0,0,0,0;w5;");
        due("an empty one comes by any", empty.bestLamp(0, 0, 0), 0);
        due("wholly", empty.bestLamp(0, 0, 1), 30);
        GnatPortraits hidden = Scenes.told("g30;s63,63,63,63,63;w5;");
        hidden.bats(63);
        due("under bats by none", hidden.bestLamp(0, 0, 0), 0);
        due("not at all", hidden.bestLamp(0, 0, 1), 0);
    }

    static void promise24RainSmokeAndWhoStandsThereAreNothingToIt() {
        GnatPortraits g = Scenes.told("g30;s63,63,63,63,63;s1,0,0,0,0;w5;");
        g.stand(1, 0);
        g.rain(true);
        g.smoke(0, true);
        due("lamp", g.bestLamp(0, 0, 0), 0);
        due("how much", g.bestLamp(0, 0, 1), 30);
        due("the lamp is where it was", g.window(0, 0), 5);
        // by wind 2 and lamp 3 the square is lost behind the last column, where bats are
        still("nothing changes", Scenes::busy, x -> x.bestLamp(2, 0, 0), 3);
    }

    static void promise24ByNoMoreThanNGnats() {
        for (int gnats = 1; gnats <= 30; gnats++) {
            GnatPortraits g = Scenes.told("g" + gnats + ";s63,63,63,63,63;w0;");
            due(gnats + " gnats", g.bestLamp(0, 0, 1), gnats);
            due(gnats + " gnats, lamp", g.bestLamp(0, 0, 0), 0);
        }
    }

    // ---- promise 25

    static void promise25SetsAre0To1073741823() {
        GnatPortraits g = Scenes.told("g1;s63,63,63,63,63;");
        due("all", g.who(ALL, 0), 1);
        due("nothing", g.who(0, 0), 3);
        for (int set : NO_SETS) {
            for (int what = 0; what < 3; what++) {
                int asked = what;
                still("who(" + set + ", " + what + ")", Scenes::busy, x -> x.who(set, asked), OUTSIDE);
                still("who(" + set + ", " + what + "), no capital", Scenes::bare, x -> x.who(set, asked), OUTSIDE);
            }
        }
    }

    static void promise25WhatIs0To2() {
        for (int what : new int[] {LEAST, -1, 3, MOST}) {
            still("what " + what, Scenes::busy, x -> x.who(0, what), OUTSIDE);
        }
    }

    static void promise25NobodyFits() {
        for (String text : new String[] {"", "g1;", "g1;s1,0,0,0,0;"}) {
            GnatPortraits g = Scenes.told(text);
            due("how many", g.who(ALL, 0), 0);
            due("sitters", g.who(ALL, 1), 0);
            due("first", g.who(ALL, 2), NONE);
        }
        due("no sitters: nothing is nobody", Scenes.told("g1;").who(0, 2), NONE);
    }

    static void promise25ShiftsAreMinus3To8() {
        // the last column by -3 is the third; by -4 it would be the second
        GnatPortraits last = Scenes.told("g1;s32,0,0,0,0;");
        due("by -3", last.who(Scenes.dots("..X..."), 2), 0);
        due("by -2", last.who(Scenes.dots("...X.."), 2), 1);
        due("by -4", last.who(Scenes.dots(".X...."), 0), 0);
        due("by 0", last.who(Scenes.dots(".....X"), 2), 3);
        due("nothing: by 1 to 8", last.who(0, 0), 8);
        due("nothing: first", last.who(0, 2), 4);
        // the first column by 5 is the last, by 6 to 8 and -1 to -3 nothing
        GnatPortraits first = Scenes.told("g1;s1,0,0,0,0;");
        due("by 5", first.who(Scenes.dots(".....X"), 2), 8);
        due("nothing: by 6 to 8, -3 to -1", first.who(0, 0), 6);
        due("nothing: first is -3", first.who(0, 2), 0);
        // a whole row is lost by 6, 7, 8 alone: 9 would be a fourth, 5 leaves the last column
        GnatPortraits whole = Scenes.told("g1;s63,0,0,0,0;");
        due("whole: nothing", whole.who(0, 0), 3);
        due("whole: first is 6", whole.who(0, 2), 9);
        due("whole: the last column", whole.who(Scenes.dots(".....X"), 2), 8);
        due("whole: by -3", whole.who(Scenes.dots("XXX..."), 2), 0);
        due("whole: by -4", whole.who(Scenes.dots("XX...."), 0), 0);
        due("an empty one by all twelve", Scenes.told("g1;s0,0,0,0,0;").who(0, 0), 12);
    }

    static void promise25DotsAreLostAtTheEndOfEachRow() {
        for (int row = 0; row < 5; row++) {
            String ahead = "g1;s" + "0,".repeat(row);
            String behind = ",0".repeat(4 - row) + ";";
            GnatPortraits last = Scenes.told(ahead + "32" + behind);
            due("the last column by 1 to 8, row " + row, last.who(0, 0), 8);
            due("no dot of the next row", last.who(at(row + 1, 0), 0), row == 4 ? 8 : 0);
            GnatPortraits first = Scenes.told(ahead + "1" + behind);
            due("the first column by 6 to 8, -3 to -1, row " + row, first.who(0, 0), 6);
            due("no dot of the row ahead", first.who(at(row - 1, 5) | at(row - 1, 4), 0), row == 0 ? 6 : 0);
        }
    }

    static void promise25TheFirstIsOfTheLeastSitter() {
        GnatPortraits g = Scenes.told("g1;s63,63,63,63,63;s63,63,63,63,63;s2,0,0,0,0;s2,0,0,0,0;s4,0,0,0,0;s1,0,0,0,0;");
        due("four", g.who(Scenes.dots(".X...."), 0), 4);
        due("sitters", g.who(Scenes.dots(".X...."), 1), 60);
        due("the first, though 4's shift is less", g.who(Scenes.dots(".X...."), 2), 203);
        due("the last sitter", g.who(Scenes.dots(".....X"), 1), 60);
        GnatPortraits six = Scenes.told(Scenes.CROWD);
        due("sitter 5", six.who(1 << 29, 1), 32);
        due("sitter 5 first", six.who(1 << 29, 2), 503);
        due("sitter 5 by -3", six.who(1 << 26, 2), 500);
    }

    static void promise25WhateverGnatsBatsEyesThereAre() {
        GnatPortraits g = Scenes.told("g1;s3,0,0,0,0;w0;");
        g.bats(63);
        g.eye(0);
        g.rain(true);
        g.wind(3);
        due("by the outline", g.who(3, 2), 3);
        still("nothing changes", Scenes::busy, x -> x.who(Scenes.dots("XX....", "XX....", "XX...."), 2), 3);
    }

    // ---- promise 26

    static void promise26SetsAre0To1073741823() {
        GnatPortraits g = Scenes.told("g1;s63,63,63,63,63;s0,0,0,0,0;");
        due("all: the empty one by six", g.parted(ALL, 0), 6);
        due("all: first", g.parted(ALL, 1), 100);
        due("nothing", g.parted(0, 0), 0);
        for (int set : NO_SETS) {
            still("parted(" + set + ", 0)", Scenes::busy, x -> x.parted(set, 0), OUTSIDE);
            still("parted(" + set + ", 1)", Scenes::busy, x -> x.parted(set, 1), OUTSIDE);
            still("parted(" + set + ", 1), no capital", Scenes::bare, x -> x.parted(set, 1), OUTSIDE);
        }
    }

    static void promise26WhatIs0Or1() {
        for (int what : new int[] {LEAST, -1, 2, MOST}) {
            still("what " + what, Scenes::busy, x -> x.parted(0, what), OUTSIDE);
        }
    }

    static void promise26NobodyOrOneAlone() {
        for (String text : new String[] {"", "g1;", "g1;s1,0,0,0,0;"}) {
            GnatPortraits g = Scenes.told(text);
            for (int set : new int[] {0, 1, 3, ALL}) {
                due("how many", g.parted(set, 0), 0);
                due("first", g.parted(set, 1), NONE);
            }
        }
    }

    static void promise26ShiftsAre0To5() {
        GnatPortraits g = Scenes.told("g1;s1,0,0,0,0;s0,1,0,0,0;");
        due("0, 0", g.parted(Scenes.dots("X.....", "X....."), 1), 100);
        due("5, 5", g.parted(Scenes.dots(".....X", ".....X"), 1), 155);
        due("0, 5", g.parted(Scenes.dots("X.....", ".....X"), 1), 105);
        due("5, 0", g.parted(Scenes.dots(".....X", "X....."), 1), 150);
        // by 6 one would be lost, by -1 too
        due("no other is lost", g.parted(Scenes.dots("X....."), 0), 0);
        due("nor the lesser", g.parted(Scenes.dots("", "X....."), 0), 0);
        // the second column can come back by -1 alone
        GnatPortraits back = Scenes.told("g1;s2,0,0,0,0;s0,2,0,0,0;");
        due("not back", back.parted(Scenes.dots("X.....", "X....."), 0), 0);
        due("lost by 5 both", back.parted(0, 0), 1);
        due("lost by 5 both, first", back.parted(0, 1), 155);
        due("both empty: six by six", Scenes.told("g1;s0,0,0,0,0;s0,0,0,0,0;").parted(0, 0), 36);
    }

    static void promise26DotsAreLostAtTheEndOfEachRow() {
        for (int row = 0; row < 5; row++) {
            String rows = "s" + "0,".repeat(row) + "33" + ",0".repeat(4 - row) + ";";
            GnatPortraits g = Scenes.told("g1;" + rows + rows);
            due("the last column of both is lost, row " + row, g.parted(at(row, 2), 0), 1);
            due("by 2 and 2, row " + row, g.parted(at(row, 2), 1), 122);
        }
    }

    static void promise26ThePairsOfSixSitters() {
        GnatPortraits g = Scenes.told("g1;s0,0,0,0,0;s0,0,0,0,0;s0,0,0,0,0;s0,0,0,0,0;s0,0,0,0,0;s0,0,0,0,0;");
        due("fifteen pairs by 36", g.parted(0, 0), 540);
        due("the first", g.parted(0, 1), 100);
        GnatPortraits last = Scenes.told("g1;s3,0,0,0,0;s3,0,0,0,0;s3,0,0,0,0;s3,0,0,0,0;s0,1,0,0,0;s0,0,1,0,0;");
        due("the last pair", last.parted(Scenes.dots("", ".....X", ".....X"), 1), 4555);
        due("the last pair alone", last.parted(Scenes.dots("", ".....X", ".....X"), 0), 1);
        due("the first with the last but one", last.parted(Scenes.dots("XX....", "X....."), 1), 400);
        due("four with it", last.parted(Scenes.dots("XX....", "X....."), 0), 4);
    }

    static void promise26DotsThatTheyShare() {
        GnatPortraits g = Scenes.told("g1;s7,0,0,0,0;s3,0,0,0,0;");
        due("XXX: the other within by 0, 1", g.parted(7, 0), 2);
        due("XXX: first", g.parted(7, 1), 100);
        due("XXXX: a nose in common", g.parted(15, 0), 2);
        due("XXXX: first", g.parted(15, 1), 102);
        due("XXXXX: side by side", g.parted(31, 0), 2);
        due("XXXXX: first", g.parted(31, 1), 103);
        due("XXXXXX: not just so", g.parted(63, 0), 0);
    }

    // ---- promise 27

    static void promise27WindowsThatThereAre() {
        GnatPortraits g = Scenes.told(Scenes.CROWD);
        due("behind the last", g.places(5), UNKNOWN);
        for (int w : new int[] {LEAST, -2, 3, 4, 5, MOST}) {
            still("places(" + w + ")", Scenes::busy, x -> x.places(w), UNKNOWN);
        }
        still("no capital", Scenes::bare, x -> x.places(0), UNKNOWN);
        still("no capital: how many", Scenes::bare, x -> x.places(NONE), 0);
    }

    private static void placed(String text, int... due) {
        GnatPortraits g = Scenes.told(text);
        placed(g, text, due);
    }

    private static void placed(GnatPortraits g, String name, int... due) {
        int count = 0;
        for (int w = 0; w < due.length; w++) {
            due("window " + w + " of " + name, g.places(w), due[w]);
            count += due[w] == NONE ? 0 : 1;
        }
        due("how many of " + name, g.places(NONE), count);
    }

    static void promise27NoSittersNoWindows() {
        placed("g1;");
        placed("g1;s1,0,0,0,0;");
        placed("g1;w0;w1;", NONE, NONE);
    }

    static void promise27AllWindowsOfFive() {
        placed("g30;s1,0,0,0,0;s0,1,0,0,0;s0,0,1,0,0;s0,0,0,1,0;s0,0,0,0,1;s0,0,0,0,2;w0;w0;w0;w0;w0;", 0, 1, 2, 3, 4);
        // the first two spoil each other everywhere: one of them stays away
        placed("g30;s63,0,0,0,0;s63,0,0,0,0;s0,1,0,0,0;s0,0,1,0,0;s0,0,0,1,0;s0,0,0,0,1;w0;w0;w0;w0;w0;", 0, 2, 3, 4, 5);
        // fewer sitters than windows: nobody is last
        placed("g30;s1,0,0,0,0;s0,1,0,0,0;w0;w0;w0;w0;w0;", 0, 1, NONE, NONE, NONE);
    }

    static void promise27NobodyAtTwo() {
        placed("g30;s1,0,0,0,0;w0;w1;w2;w3;w4;", 0, NONE, NONE, NONE, NONE);
    }

    static void promise27NobodyIsLast() {
        // window 0 may be left empty only if that fills more
        placed("g30;s1,0,0,0,0;s1,0,0,0,0;w0;w0;", 0, NONE);
        // sitter 0 is drawn at window 1 alone, 1 nowhere
        placed("g30;s32,0,0,0,0;s0,0,0,0,0;w1;w0;", NONE, 0);
        // at window 0 by lamp 5 sitter 0 would take the only dot that 1 has by 0
        placed("g30;s1,0,0,0,0;s32,0,0,0,0;w5;w0;", 0, NONE);
        placed("g30;s63,0,0,0,0;s1,0,0,0,0;s2,0,0,0,0;w0;w0;w0;", 1, 2, NONE);
    }

    static void promise27NobodyWhereSomebodyWouldSpoilTheMost() {
        // at window 0 only the wide one is drawn, over all that the other could take
        GnatPortraits g = Scenes.told("g30;s63,0,0,0,0;s1,0,0,0,0;w0;w5;w1;");
        g.bats(1);
        placed(g, "the first is left empty", NONE, 0, 1);
    }

    static void promise27TheMostComeAheadOfTheFirst() {
        // 0 at window 0 would leave one alone; 1 and 2 fit side by side
        placed("g30;s3,0,0,0,0;s1,0,0,0,0;s2,0,0,0,0;w0;w0;", 1, 2);
        // the wide one first would spoil three
        placed("g30;s63,0,0,0,0;s1,0,0,0,0;s2,0,0,0,0;s4,0,0,0,0;w0;w0;w0;", 1, 2, 3);
    }

    static void promise27NoneIsEmpty() {
        placed("g30;s0,0,0,0,0;w0;", NONE);
        placed("g30;s32,0,0,0,0;w1;", NONE);
        GnatPortraits g = Scenes.told("g30;s1,0,0,0,0;w0;");
        placed(g, "one dot", 0);
        g.bats(1);
        placed(g, "bats", NONE);
        g.bats(0);
        g.eye(0);
        placed(g, "an eye", NONE);
        g.wind(-1);
        placed(g, "wind back", NONE);
        g.wind(1);
        placed(g, "wind", 0);
    }

    static void promise27NoTwoShareADot() {
        placed("g30;s3,0,0,0,0;s6,0,0,0,0;w0;w0;", 0, NONE);
        placed("g30;s3,0,0,0,0;s12,0,0,0,0;w0;w0;", 0, 1);
        // of what is drawn: two gnats leave the shared dot out
        placed("g2;s3,0,0,0,32;s12,0,0,0,32;w0;w0;", 0, 1);
        placed("g3;s3,0,0,0,32;s12,0,0,0,32;w0;w0;", 0, NONE);
    }

    static void promise27RainSmokeAndWhoStandsAreNothingToIt() {
        GnatPortraits g = Scenes.told("g30;s1,0,0,0,0;s2,0,0,0,0;w0;w0;");
        g.stand(1, 0);
        g.rain(true);
        g.smoke(0, true);
        g.smoke(1, true);
        placed(g, "all the same", 0, 1);
        due("he stays", g.window(0, 1), 1);
        // the ring at window 0 leaves rows 0 and 4 to the arrow at window 1; all others share a dot
        still("nothing changes", Scenes::rainy, x -> x.places(0), 2);
    }

    // ---- promise 28

    static void promise28SittersThatThereAre() {
        for (int s : BEYOND_THREE) {
            still("apart(" + s + ", 0, 0)", Scenes::busy, g -> g.apart(s, 0, 0), UNKNOWN);
            still("apart(0, " + s + ", 0)", Scenes::busy, g -> g.apart(0, s, 0), UNKNOWN);
            still("unknown comes first", Scenes::busy, g -> g.apart(0, s, 3), UNKNOWN);
            still("unknown comes first", Scenes::busy, g -> g.apart(s, 0, -1), UNKNOWN);
        }
        still("no capital", Scenes::bare, g -> g.apart(0, 1, 0), UNKNOWN);
        GnatPortraits g = Scenes.told(Scenes.CROWD);
        due("the first and the last", g.apart(0, 5, 2), 1 << 29);
        due("the last and the first", g.apart(5, 0, 2), 1 << 29);
        due("behind the last", g.apart(0, 6, 2), UNKNOWN);
    }

    static void promise28OneTwiceIsUnknown() {
        for (int s = 0; s < 3; s++) {
            int twice = s;
            still("twice " + s, Scenes::busy, g -> g.apart(twice, twice, 0), UNKNOWN);
            still("twice " + s + ", unknown comes first", Scenes::busy, g -> g.apart(twice, twice, 3), UNKNOWN);
        }
    }

    static void promise28WhatIs0To2() {
        for (int what : new int[] {LEAST, -1, 3, MOST}) {
            still("what " + what, Scenes::busy, g -> g.apart(0, 1, what), OUTSIDE);
        }
    }

    static void promise28NothingAndAllDots() {
        GnatPortraits g = Scenes.told("g1;s63,63,63,63,63;s0,0,0,0,0;s63,63,63,63,63;s0,0,0,0,0;");
        due("wholly apart", g.apart(0, 1, 0), ALL);
        due("by 30", g.apart(0, 1, 1), 30);
        due("nothing in common", g.apart(0, 1, 2), 0);
        due("not apart", g.apart(0, 2, 0), 0);
        due("by none", g.apart(0, 2, 1), 0);
        due("all in common", g.apart(0, 2, 2), ALL);
        due("two empty ones", g.apart(1, 3, 1), 0);
        due("two empty ones, in common", g.apart(1, 3, 2), 0);
        still("nothing changes", Scenes::busy, x -> x.apart(0, 1, 1), 7);
    }

    // ---- promise 29

    static void promise29SetsAre0To1073741823() {
        GnatPortraits g = new GnatPortraits();
        due("holes of nothing", g.turned(0, 0), 0);
        due("holes of all", g.turned(ALL, 0), 0);
        due("mirror of nothing", g.turned(0, 1), 0);
        due("mirror of all", g.turned(ALL, 1), ALL);
        for (int set : NO_SETS) {
            still("turned(" + set + ", 0)", Scenes::busy, x -> x.turned(set, 0), OUTSIDE);
            still("turned(" + set + ", 1), no capital", Scenes::bare, x -> x.turned(set, 1), OUTSIDE);
        }
    }

    static void promise29WhatIs0Or1() {
        for (int what : new int[] {LEAST, -1, 2, MOST}) {
            still("what " + what, Scenes::busy, g -> g.turned(0, what), OUTSIDE);
        }
    }

    static void promise29EachDotIsAHoleOfAllOthers() {
        GnatPortraits g = new GnatPortraits();
        for (int dot = 0; dot < 30; dot++) {
            due("a hole at " + dot, g.turned(ALL ^ (1 << dot), 0), 1 << dot);
        }
    }

    static void promise29EachDotIsAHoleOfJustItsNeighbours() {
        GnatPortraits g = new GnatPortraits();
        for (int row = 0; row < 5; row++) {
            for (int column = 0; column < 6; column++) {
                int near = at(row, column - 1) | at(row, column + 1) | at(row - 1, column) | at(row + 1, column);
                int dot = at(row, column);
                due("a hole at " + row + ", " + column, g.turned(near, 0) & dot, dot);
                for (int one = 0; one < 30; one++) {
                    if ((near >> one & 1) == 1) {
                        due("one is missed", g.turned(near ^ (1 << one), 0) & dot, 0);
                    }
                }
                due("no hole that is in it", g.turned(near | dot, 0) & dot, 0);
            }
        }
    }

    /** Nothing beyond the air. */
    private static int at(int row, int column) {
        return row < 0 || row > 4 || column < 0 || column > 5 ? 0 : 1 << (6 * row + column);
    }

    static void promise29TwoHolesSideBySideAreNone() {
        due("side by side", new GnatPortraits().turned(ALL ^ 3, 0), 0);
        due("one over the other", new GnatPortraits().turned(ALL ^ 1 ^ 64, 0), 0);
        // the last of a row and the first of the next are not beside each other
        due("at both ends", new GnatPortraits().turned(ALL ^ 32 ^ 64, 0), 96);
    }

    static void promise29ColumnKIs5LessK() {
        GnatPortraits g = new GnatPortraits();
        for (int row = 0; row < 5; row++) {
            for (int column = 0; column < 6; column++) {
                due("mirror of " + row + ", " + column, g.turned(at(row, column), 1), at(row, 5 - column));
            }
        }
    }

    // ---- promise 30

    static void promise30SittersThatThereAre() {
        GnatPortraits g = Scenes.told(Scenes.CROWD);
        due("the last", g.votes(1 << 29, 5), 2);
        due("behind the last", g.votes(0, 6), UNKNOWN);
        for (int s : new int[] {LEAST, -2, 3, 4, MOST}) {
            still("votes(0, " + s + ")", Scenes::busy, x -> x.votes(0, s), UNKNOWN);
            still("unknown comes first", Scenes::busy, x -> x.votes(-1, s), UNKNOWN);
        }
        still("no capital", Scenes::bare, x -> x.votes(0, 0), UNKNOWN);
        still("no capital, unknown comes first", Scenes::bare, x -> x.votes(-1, 0), UNKNOWN);
    }

    static void promise30SetsAre0To1073741823() {
        GnatPortraits g = Scenes.told("g1;s0,0,0,0,0;s63,63,63,63,63;c1;c63;");
        due("nothing", g.votes(0, NONE), 0);
        due("all", g.votes(ALL, NONE), 1);
        due("all: both", g.votes(ALL, 1), 2);
        for (int set : NO_SETS) {
            still("votes(" + set + ", NONE)", Scenes::busy, x -> x.votes(set, NONE), OUTSIDE);
            still("votes(" + set + ", 0)", Scenes::busy, x -> x.votes(set, 0), OUTSIDE);
            still("votes(" + set + ", NONE), no capital", Scenes::bare, x -> x.votes(set, NONE), OUTSIDE);
        }
    }

    static void promise30NoneWithoutCriticsOrSitters() {
        still("no capital", Scenes::bare, g -> g.votes(0, NONE), NONE);
        due("no critics", Scenes.told("g1;s1,0,0,0,0;").votes(1, NONE), NONE);
        due("no critics: none says so", Scenes.told("g1;s1,0,0,0,0;").votes(1, 0), 0);
        due("no sitters", Scenes.told("g1;c63;").votes(1, NONE), NONE);
    }

    static void promise30SixSittersSixCritics() {
        // critics of columns 0, 1, 2, 3, 5 and of all; sitter 0 has all dots, 1 none, 5 the last
        GnatPortraits g = Scenes.told(Scenes.CROWD);
        due("all dots: all say 0", g.votes(ALL, 0), 6);
        due("all dots: elected", g.votes(ALL, NONE), 0);
        due("nothing: all say 1", g.votes(0, 1), 6);
        due("nothing: elected", g.votes(0, NONE), 1);
        GnatPortraits last = Scenes.told("g1;s1,0,0,0,0;s1,0,0,0,0;s1,0,0,0,0;s1,0,0,0,0;s1,0,0,0,0;s0,0,0,0,0;c1;c1;");
        due("the last: both", last.votes(0, 5), 2);
        due("the last is elected", last.votes(0, NONE), 5);
    }

    static void promise30EachLooksAtHisColumnsAlone() {
        for (int column = 0; column < 6; column++) {
            // sitter 1 has this column, sitter 2 all others
            int own = 1 << column;
            String rows = own + "," + own + "," + own + "," + own + "," + own;
            int rest = 63 ^ own;
            String others = rest + "," + rest + "," + rest + "," + rest + "," + rest;
            GnatPortraits g = Scenes.told("g1;s0,0,0,0,0;s" + rows + ";s" + others + ";c" + own + ";");
            due("his column", g.votes(own * 17043521, NONE), 1);
            due("all", g.votes(ALL, NONE), 1);
            due("all others: nothing in his", g.votes(rest * 17043521, NONE), 0);
            // the last row alone: one dot of five; without it four
            due("one of five is more like nothing", g.votes(own << 24, NONE), 0);
            due("three of five", g.votes((own << 24) + (own << 18) + own, NONE), 1);
        }
    }

    static void promise30OfLikeOnesTheLeast() {
        // by his column a critic sees 1 and 2 alike
        GnatPortraits g = Scenes.told("g1;s0,0,0,0,0;s1,0,0,0,0;s3,0,0,0,0;c1;c1;c2;c2;c4;");
        due("1, 1, 2, 2, 0", g.votes(3, 1), 2);
        due("of 2", g.votes(3, 2), 2);
        due("of 0", g.votes(3, 0), 1);
        due("of like ones the least is elected", g.votes(3, NONE), 1);
        GnatPortraits last = Scenes.told("g1;s0,0,0,0,0;s1,0,0,0,0;s3,0,0,0,0;c1;c2;c2;");
        due("the most", last.votes(3, NONE), 2);
        GnatPortraits six = Scenes.told("g1;s1,0,0,0,0;s1,0,0,0,0;c1;c2;c4;c8;c16;c32;");
        due("all six", six.votes(1, 0), 6);
        due("none of the other", six.votes(1, 1), 0);
        // the arrow has the fewest dots for the critics of columns 0 to 2 and of column 0
        still("nothing changes", Scenes::busy, x -> x.votes(0, 1), 2);
    }

    // ---- promise 31

    static void promise31DusksAre0To60() {
        GnatPortraits g = new GnatPortraits();
        due("0 by 0", g.clear(0, 0), 1000000000);
        due("0 by 100", g.clear(0, 100), 1000000000);
        due("60 by 100", g.clear(60, 100), 1000000000);
        for (int n : new int[] {LEAST, -1, 61, MOST}) {
            still("clear(" + n + ", 50)", Scenes::busy, x -> x.clear(n, 50), OUTSIDE);
            still("clear(" + n + ", 50), no capital", Scenes::bare, x -> x.clear(n, 50), OUTSIDE);
        }
    }

    static void promise31OddsAre0To100() {
        GnatPortraits g = new GnatPortraits();
        due("1 by 0", g.clear(1, 0), 0);
        due("60 by 0", g.clear(60, 0), 0);
        due("1 by 1", g.clear(1, 1), 10000000);
        due("1 by 99", g.clear(1, 99), 990000000);
        due("1 by 100", g.clear(1, 100), 1000000000);
        for (int q : new int[] {LEAST, -1, 101, MOST}) {
            still("clear(1, " + q + ")", Scenes::busy, x -> x.clear(1, q), OUTSIDE);
            still("clear(0, " + q + ")", Scenes::busy, x -> x.clear(0, q), OUTSIDE);
        }
    }

    static void promise31EachIsCut() {
        GnatPortraits g = new GnatPortraits();
        for (int q = 0; q <= 100; q += 1) {
            java.math.BigInteger odds = java.math.BigInteger.valueOf(1000000000);
            for (int n = 0; n <= 4; n++) {
                due("clear(" + n + ", " + q + ")", g.clear(n, q), odds.intValueExact());
                odds = odds.multiply(java.math.BigInteger.valueOf(q)).divide(java.math.BigInteger.valueOf(100));
            }
        }
        // 10^9 by 3 each: 30000000, 900000, 27000, 810, 24 (of 24.3), 0 (of 0.72)
        due("by 3, five", g.clear(5, 3), 24);
        due("by 3, six", g.clear(6, 3), 0);
    }

    // ---- promise 32

    static void promise32DotsAre0To29() {
        GnatPortraits g = Scenes.told("g1;s1,0,0,0,0;s0,0,0,0,1;");
        due("0", g.tellOf(0, true), 1);
        due("may be", g.told(14), 1);
        due("torn", g.tear(), 1);
        due("29", g.tellOf(29, true), 1);
        due("may be", g.told(14), 2);
        for (int dot : new int[] {LEAST, -1, 30, 31, 32, MOST}) {
            still("tellOf(" + dot + ", true)", Scenes::busy, x -> x.tellOf(dot, true), OUTSIDE);
            still("tellOf(" + dot + ", false)", Scenes::bare, x -> x.tellOf(dot, false), OUTSIDE);
        }
    }

    static void promise32TheSixthIsTakenTheSeventhIsNot() {
        GnatPortraits g = Scenes.told("g1;s63,63,63,63,63;");
        for (int i = 1; i <= 6; i++) {
            due("told " + i, g.tellOf(5, true), i);
        }
        due("told 7", g.tellOf(5, true), FULL);
        still("drawn", Scenes::toldOfSix, x -> x.tellOf(0, true), FULL);
        still("not drawn", Scenes::toldOfSix, x -> x.tellOf(0, false), FULL);
        still("outside comes first", Scenes::toldOfSix, x -> x.tellOf(30, true), OUTSIDE);
        still("outside comes first", Scenes::toldOfSix, x -> x.tellOf(-1, true), OUTSIDE);
    }

    static void promise32WithoutACapital() {
        GnatPortraits g = new GnatPortraits();
        for (int i = 1; i <= 6; i++) {
            due("told " + i, g.tellOf(i, true), i);
        }
        due("told 7", g.tellOf(0, true), FULL);
        due("nobody", g.told(14), 0);
        due("nothing to ask", g.ask(), NONE);
    }

    static void promise32LampsAre0To5() {
        // a dot of column 0 comes to 0 by lamp 0, to 5 by lamp 5, never back
        GnatPortraits first = Scenes.told("g1;s1,0,0,0,0;s2,0,0,0,0;");
        first.tellOf(0, true);
        due("by lamp 0, not back by -1", first.told(14), 1);
        GnatPortraits last = Scenes.told("g1;s1,0,0,0,0;s2,0,0,0,0;");
        last.tellOf(5, true);
        due("by lamps 5, 4", last.told(14), 3);
        GnatPortraits five = Scenes.told("g1;s1,0,0,0,0;s2,0,0,0,0;");
        for (int dot = 0; dot < 5; dot++) {
            five.tellOf(dot, false);
        }
        due("none to the fourth: by lamp 5", five.told(14), 3);
        five.tellOf(5, false);
        due("none at all: by lamp 5 the other is lost, by 6 the first would be", five.told(14), 2);
    }

    static void promise32AllThatIsToldByOneLamp() {
        // two rows a column apart: no lamp brings both to column 2
        GnatPortraits g = Scenes.told("g1;s1,2,0,0,0;s1,1,0,0,0;");
        g.tellOf(2, true);
        due("both", g.told(14), 3);
        g.tellOf(8, true);
        due("by one lamp", g.told(14), 2);
    }

    static void promise32WhatCannotBe() {
        GnatPortraits g = Scenes.told("g1;s63,63,63,63,63;s0,0,0,0,0;");
        due("drawn", g.tellOf(3, true), 1);
        due("one", g.told(14), 1);
        due("and not", g.tellOf(3, false), 2);
        due("nobody", g.told(14), 0);
    }

    static void promise32WhateverGnatsWindBatsEyesThereAre() {
        GnatPortraits g = Scenes.told("g1;s3,0,0,0,0;s1,0,0,0,0;w0;");
        g.wind(3);
        g.bats(63);
        g.eye(0);
        g.rain(true);
        g.tellOf(0, true);
        g.tellOf(1, true);
        due("two dots by one gnat", g.told(14), 1);
    }

    // ---- promise 33

    static void promise33NoneIfNoneParts() {
        still("no capital", Scenes::bare, g -> g.ask(), NONE);
        due("no sitters", Scenes.told("g1;").ask(), NONE);
        due("empty ones alone", Scenes.told("g1;s0,0,0,0,0;s0,0,0,0,0;").ask(), NONE);
        GnatPortraits one = Scenes.told("g1;s1,0,0,0,0;");
        one.tellOf(3, true);
        due("one pair", one.ask(), NONE);
        one.tellOf(3, false);
        due("no pair", one.ask(), NONE);
        GnatPortraits alike = Scenes.told("g1;s1,0,0,0,0;s1,0,0,0,0;");
        alike.tellOf(5, true);
        due("two alike", alike.ask(), NONE);
    }

    static void promise33TheFirstDotAndTheLast() {
        // row 0 is drawn by all lamps alike, but for what is lost: only dots of the first sitter part
        GnatPortraits first = Scenes.told("g1;s1,0,0,0,0;s0,0,0,0,0;");
        for (int dot = 1; dot < 6; dot++) {
            first.tellOf(dot, false);
        }
        due("dot 0 parts one of seven", first.ask(), 0);
        GnatPortraits last = Scenes.told("g1;s0,0,0,0,1;s0,0,0,0,0;");
        for (int dot = 24; dot < 29; dot++) {
            last.tellOf(dot, false);
        }
        due("dot 29 parts one of seven", last.ask(), 29);
    }

    static void promise33OfLikeOnesTheLeast() {
        // each dot of a row parts one of six
        due("all six part alike", Scenes.told("g1;s0,0,1,0,0;").ask(), 12);
        // a whole row by lamps 0 to 5: dot c is drawn by c and 1 lamps; three of six by dot 2
        due("half", Scenes.told("g1;s0,63,63,0,0;").ask(), 8);
        // one of twelve, ..; dots 1 to 5 part three of twelve
        due("the greatest part is least", Scenes.told("g1;s1,0,0,0,0;s3,0,0,0,0;").ask(), 1);
        still("nothing changes", Scenes::toldOfSix, x -> x.ask(), 0);
    }

    static void promise33OneMoreThanHalfIsAsGoodAsOneLess() {
        // sitter 0 by lamps 0 to 5 is drawn at dot 5 by all six, the empty one never: half of twelve
        due("half of twelve", Scenes.told("g1;s63,0,0,0,0;s0,0,0,0,0;").ask(), 5);
        // of 18: dot 5 by twelve, dot 4 by ten, 3 by eight (ten not): 4 and 3 are as good, 3 is less
        due("ten and eight, eight and ten", Scenes.told("g1;s63,0,0,0,0;s63,0,0,0,0;s0,0,0,0,0;").ask(), 3);
    }

    // ---- promise 34

    static void promise34NothingAndSix() {
        GnatPortraits none = Scenes.told(Scenes.CITY);
        due("nothing", none.tear(), 0);
        GnatPortraits six = Scenes.toldOfSix();
        due("six", six.tear(), 6);
        due("none is told of", six.told(13), 0);
        due("all may be", six.told(14), 1);
        due("again", six.tear(), 0);
        due("the first again", six.tellOf(0, true), 1);
        due("no capital", Scenes.bare().tear(), 1);
    }

    static void promise34WhatWasDrawnAndWhatWasNotAreTorn() {
        GnatPortraits g = Scenes.told("g1;s1,0,0,0,0;s2,0,0,0,0;");
        g.tellOf(0, true);
        due("one may be", g.told(14), 1);
        g.tear();
        due("torn: both", g.told(14), 3);
        for (int dot = 0; dot < 6; dot++) {
            g.tellOf(dot, false);
        }
        due("the other may be", g.told(14), 2);
        g.tear();
        due("torn: both again", g.told(14), 3);
        due("as at first", g.ask(), Scenes.told("g1;s1,0,0,0,0;s2,0,0,0,0;").ask());
    }

    static void promise34AllElseStays() {
        GnatPortraits torn = Scenes.busy();
        GnatPortraits kept = Scenes.busy();
        due("one", torn.tear(), 1);
        due("told again", torn.tellOf(2, true), 1);
        CHECKS.same("all else", Scenes.all(torn), Scenes.all(kept));
    }
}
