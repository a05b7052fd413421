import java.util.function.Supplier;
import java.util.function.ToIntFunction;

/** Objects in the states that boundary tests begin from, and all that can be seen of an object. */
final class Scenes {
    static final int NONE = -1;
    static final int UNKNOWN = -1000000001;
    static final int OUTSIDE = -1000000002;
    static final int NOT = -1000000003;
    static final int FULL = -1000000004;
    static final int ALL = 1073741823;
    static final int LEAST = Integer.MIN_VALUE;
    static final int MOST = Integer.MAX_VALUE;

    /** Three sitters (a square, an arrow, a ring), three windows, three critics. */
    static final String CITY = "g9;s3,3,3,0,0;s1,2,4,2,1;s0,7,5,7,0;w0;w2;w3;c7;c56;c1;";
    /** As many of all as there may be. */
    static final String CROWD = "g30;s63,63,63,63,63;s0,0,0,0,0;s1,0,0,0,0;s2,0,0,0,0;s4,0,0,0,0;s0,0,0,0,32;"
        + "w0;w1;w2;w4;w5;c1;c2;c4;c8;c32;c63;";
    static final String SMALL = "g2;s1,0,0,0,0;w0;";

    private Scenes() {
    }

    static int dots(String... rows) {
        int set = 0;
        for (int row = 0; row < rows.length; row++) {
            for (int column = 0; column < rows[row].length(); column++) {
                if (rows[row].charAt(column) == 'X') {
                    set |= 1 << (6 * row + column);
                }
            }
        }
        return set;
    }

    static void feed(GnatPortraits g, String text) {
        for (int i = 0; i < text.length(); i++) {
            g.feed(text.charAt(i));
        }
    }

    static int tell(GnatPortraits g, String text) {
        feed(g, text);
        return g.capital();
    }

    static GnatPortraits told(String text) {
        GnatPortraits g = new GnatPortraits();
        if (tell(g, text) < 0) {
            throw new IllegalStateException("the text " + text + " has a fault at " + g.fault());
        }
        return g;
    }

    // ---- scenes

    /** Without a capital, but with a text, a seed, something told of. */
    static GnatPortraits bare() {
        GnatPortraits g = new GnatPortraits();
        g.seed(99);
        g.tellOf(3, true);
        feed(g, "g7;s1,2,3,4,5;");
        return g;
    }

    /** With something of all that there is; five can be undone, image 1 is kept, image 0 is not. */
    static GnatPortraits busy() {
        GnatPortraits g = told(CITY);
        g.seed(123);
        g.stand(0, 0);
        g.stand(1, 1);
        g.press(2, 0);
        g.dusk(1);
        g.keep(1);
        g.lamp(0, 1);
        g.wind(2);
        g.bats(32);
        g.eye(7);
        g.smoke(1, true);
        g.tellOf(2, true);
        tell(g, "g1;x");
        feed(g, "g7;s1,2,3,4,5;");
        return g;
    }

    static GnatPortraits rainy() {
        GnatPortraits g = busy();
        g.rain(true);
        return g;
    }

    /** The text has its 240 letters. */
    static GnatPortraits longText() {
        GnatPortraits g = told(SMALL);
        g.stand(0, 0);
        feed(g, "g7;s1,2,3,4,5;" + " ".repeat(226));
        return g;
    }

    /** 9001 dusks have been, and one thing can be undone. */
    static GnatPortraits late() {
        GnatPortraits g = told(SMALL);
        g.stand(0, 0);
        for (int i = 0; i < 150; i++) {
            g.dusk(60);
        }
        g.dusk(1);
        g.keep(0);
        g.wind(2);
        return g;
    }

    /** Six are told of. */
    static GnatPortraits toldOfSix() {
        GnatPortraits g = told(SMALL);
        for (int dot = 6; dot < 12; dot++) {
            g.tellOf(dot, false);
        }
        g.wind(1);
        return g;
    }

    /** Sixteen can be undone. */
    static GnatPortraits sixteenDone() {
        GnatPortraits g = told(SMALL);
        for (int i = 0; i < 17; i++) {
            g.lamp(0, i % 5 + 1);
        }
        return g;
    }

    /** The album has its twenty. */
    static GnatPortraits fullAlbum() {
        GnatPortraits g = told(CITY);
        g.stand(0, 0);
        g.stand(1, 1);
        g.dusk(12);
        return g;
    }

    // ---- what can be seen

    /** By calls that change nothing: 119 of them. */
    static String seen(GnatPortraits g) {
        return shown(g, true);
    }

    /** The same without the text's length and the fault. */
    static String seenButText(GnatPortraits g) {
        return shown(g, false);
    }

    private static String shown(GnatPortraits g, boolean withText) {
        StringBuilder all = new StringBuilder("told");
        for (int what = 0; what < 16; what++) {
            if (what != 4 || withText) {
                all.append(' ').append(g.told(what));
            }
        }
        all.append(withText ? " fault " + g.fault() : "").append(" sitters");
        for (int s = 0; s < 6; s++) {
            for (int what = 0; what < 3; what++) {
                all.append(' ').append(g.sitter(s, what));
            }
        }
        all.append(" windows");
        for (int w = 0; w < 5; w++) {
            for (int what = 0; what < 4; what++) {
                all.append(' ').append(g.window(w, what));
            }
        }
        all.append(" album");
        for (int i = 0; i < 20; i++) {
            for (int what = 0; what < 3; what++) {
                all.append(' ').append(g.album(i, what));
            }
        }
        all.append(" glasses");
        for (int i = 0; i < 4; i++) {
            all.append(' ').append(g.glass(i));
        }
        return all.toString();
    }

    /** What doings change, in short: 22 calls. */
    private static String brief(GnatPortraits g) {
        StringBuilder all = new StringBuilder(" [");
        for (int what = 5; what < 13; what++) {
            if (what != 11) {
                all.append(g.told(what)).append(' ');
            }
        }
        for (int w = 0; w < 5; w++) {
            all.append(g.window(w, 0)).append(' ').append(g.window(w, 1)).append(' ');
        }
        for (int i = 0; i < 4; i++) {
            all.append(g.glass(i)).append(' ');
        }
        return all.append(g.album(0, 2)).append(']').toString();
    }

    /** What only shows by calls that change it: what can be undone, images, the seed, what is told of. */
    private static String hidden(GnatPortraits g) {
        StringBuilder all = new StringBuilder(" ask ").append(g.ask()).append(" seed ").append(g.seed(1));
        int left = 0;
        for (int i = 0; i < 17 && left != NOT; i++) {
            left = g.undo();
            all.append(" undo ").append(left).append(left == NOT ? "" : brief(g));
        }
        for (int i = 0; i < 2; i++) {
            all.append(" back ").append(g.goBack(i)).append(brief(g)).append(" seed ").append(g.seed(1));
        }
        return all.append(" tear ").append(g.tear()).append(' ').append(g.told(14)).toString();
    }

    /** All there is; the object is of no use behind it. */
    static String all(GnatPortraits g) {
        String open = seen(g) + hidden(g);
        return open + " text " + g.capital() + ' ' + g.fault() + ' ' + g.told(0) + ' ' + g.sitter(0, 0);
    }

    /** All there is but the text and the fault; the object is of no use behind it. */
    static String allButText(GnatPortraits g) {
        return seenButText(g) + hidden(g);
    }

    // ---- checks

    /** The call's answer is as due, and all is as if it had not been made. */
    static void changesNothing(Checks checks, String call, Supplier<GnatPortraits> scene,
            ToIntFunction<GnatPortraits> made, int want) {
        GnatPortraits asked = scene.get();
        checks.due(call, made.applyAsInt(asked), want);
        checks.same(call + " changes nothing", all(asked), all(scene.get()));
    }
}
