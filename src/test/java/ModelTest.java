import java.util.Random;

/** Long runs of calls by draws (always the same ones): the program answers as the model does. */
public final class ModelTest {
    private static final int RUNS = 1000;
    /** The document leaves free what an object answers behind its 512th call. */
    private static final int CALLS = 512;
    private static final int LOOKS = 22;
    private static final int ALL = (1 << 30) - 1;

    private final Random draws;
    private final GnatPortraits program = new GnatPortraits();
    private final Model model = new Model();
    private final Checks checks;
    private final int run;
    private int calls = 0;

    private ModelTest(int run, Checks checks) {
        this.run = run;
        this.checks = checks;
        draws = new Random(run);
    }

    public static void main(String[] args) {
        Checks checks = new Checks();
        for (int run = 0; run < RUNS; run++) {
            new ModelTest(run, checks).play();
        }
        checks.end();
    }

    private void play() {
        if (run % 10 != 0) {
            tell(draws.nextInt(3) == 0 ? brokenText() : text());
        }
        while (calls < CALLS) {
            if (CALLS - calls > 250 && draws.nextInt(60) == 0) {
                tell(draws.nextBoolean() ? brokenText() : text());
            } else {
                call(draws.nextInt(32));
            }
        }
    }

    private void same(String call, int got, int want) {
        calls++;
        checks.due("run " + run + ": " + call, got, want);
    }

    private void tell(String text) {
        for (int i = 0; i < text.length(); i++) {
            same("feed", program.feed(text.charAt(i)), model.feed(text.charAt(i)));
        }
        same("capital of '" + text + "'", program.capital(), model.capital());
        same("fault of '" + text + "'", program.fault(), model.fault());
    }

    private String text() {
        StringBuilder text = new StringBuilder("g").append(1 + draws.nextInt(draws.nextBoolean() ? 30 : 8)).append(';');
        int sitters = draws.nextInt(7);
        int windows = draws.nextInt(6);
        int critics = draws.nextInt(7);
        boolean sparse = draws.nextBoolean();
        while (sitters + windows + critics > 0) {
            int which = draws.nextInt(sitters + windows + critics);
            if (which < sitters) {
                text.append('s').append(columns(sparse));
                for (int row = 1; row < 5; row++) {
                    text.append(',').append(columns(sparse));
                }
                sitters--;
            } else if (which < sitters + windows) {
                text.append('w').append(draws.nextInt(sparse ? 3 : 6));
                windows--;
            } else {
                text.append('c').append(1 + draws.nextInt(63));
                critics--;
            }
            text.append(';');
            if (draws.nextInt(9) == 0) {
                text.insert(draws.nextInt(2) * text.length(), ' ');
            }
        }
        return text.toString();
    }

    private int columns(boolean sparse) {
        if (!sparse) {
            return draws.nextInt(64);
        }
        return draws.nextInt(3) == 0 ? 1 << draws.nextInt(4) : 0;
    }

    /** A good text with a few letters put in, out or in place of others. */
    private String brokenText() {
        StringBuilder text = new StringBuilder(text());
        String letters = "gswc;,0123456789  x";
        for (int i = 1 + draws.nextInt(2); i > 0 && text.length() > 0; i--) {
            int at = draws.nextInt(text.length());
            char letter = letters.charAt(draws.nextInt(letters.length()));
            int how = draws.nextInt(4);
            if (how == 0) {
                text.insert(at, letter);
            } else if (how == 1) {
                text.setCharAt(at, letter);
            } else if (how == 2) {
                text.deleteCharAt(at);
            } else {
                text.setLength(at);
            }
        }
        return text.toString();
    }

    /** Mostly within the bounds, at times beyond. */
    private int within(int least, int most) {
        int kind = draws.nextInt(60);
        if (kind == 0) {
            return least - 1;
        }
        if (kind == 1) {
            return most + 1;
        }
        if (kind == 2) {
            return draws.nextInt();
        }
        return least + draws.nextInt(most - least + 1);
    }

    private int aSitter() {
        return within(0, Math.max(0, model.told(1) - 1));
    }

    private int aWindow() {
        return within(0, Math.max(0, model.told(2) - 1));
    }

    /** Sets that something may come of: what is drawn, outlines, two of these together, few dots, any. */
    private int aSet() {
        int kind = draws.nextInt(8);
        int outline = Math.max(0, model.sitter(aSitter(), 0));
        if (kind == 0) {
            return Math.max(0, model.window(aWindow(), 2));
        }
        if (kind == 1) {
            return outline;
        }
        if (kind == 2) {
            return model.told(11);
        }
        if (kind == 3) {
            return ALL & (outline << draws.nextInt(3) | Math.max(0, model.sitter(aSitter(), 0)) << draws.nextInt(3));
        }
        if (kind == 4) {
            return ALL & ~(1 << draws.nextInt(30)) & ~(1 << draws.nextInt(30));
        }
        if (kind == 5) {
            return 1 << draws.nextInt(31);
        }
        return kind == 6 ? 0 : draws.nextInt() >> draws.nextInt(3);
    }

    private void call(int which) {
        boolean is = draws.nextBoolean();
        int s = aSitter();
        int q = aSitter();
        int w = aWindow();
        int what = within(0, 2);
        if (which < 16) {
            done(which, s, w, is);
        } else {
            tried(which, s, q, w, what);
        }
        if (draws.nextInt(8) == 0 && calls + LOOKS <= CALLS) {
            looked(s, w, what);
        }
    }

    private void done(int which, int s, int w, boolean is) {
        int n;
        switch (which) {
            case 0: case 1: same("stand(" + s + ", " + w + ")", program.stand(s, w), model.stand(s, w)); break;
            case 2: same("go(" + s + ")", program.go(s), model.go(s)); break;
            case 3: n = within(0, 5); same("lamp(" + w + ", " + n + ")", program.lamp(w, n), model.lamp(w, n)); break;
            case 4: n = within(-3, 3); same("wind(" + n + ")", program.wind(n), model.wind(n)); break;
            case 5: n = within(0, 63); same("bats(" + n + ")", program.bats(n), model.bats(n)); break;
            case 6: n = within(0, 29); same("eye(" + n + ")", program.eye(n), model.eye(n)); break;
            case 7: is &= draws.nextBoolean(); same("rain(" + is + ")", program.rain(is), model.rain(is)); break;
            case 8: same("smoke(" + w + ", " + is + ")", program.smoke(w, is), model.smoke(w, is)); break;
            case 9: n = within(0, 3); same("press(" + n + ", " + w + ")", program.press(n, w), model.press(n, w)); break;
            case 10: n = within(1, is ? 3 : 60); same("dusk(" + n + ")", program.dusk(n), model.dusk(n)); break;
            case 11: n = within(1, is ? 3 : 60); same("drift(" + n + ")", program.drift(n), model.drift(n)); break;
            case 12: same("undo()", program.undo(), model.undo()); break;
            case 13: n = within(0, Integer.MAX_VALUE - 1); same("seed(" + n + ")", program.seed(n), model.seed(n)); break;
            case 14: n = within(0, 1); same("keep(" + n + ")", program.keep(n), model.keep(n)); break;
            default: n = within(0, 1); same("goBack(" + n + ")", program.goBack(n), model.goBack(n)); break;
        }
    }

    private void tried(int which, int s, int q, int w, int what) {
        int set = aSet();
        int at = draws.nextInt(3) == 0 ? -1 : s;
        int n = within(0, 60);
        int part = within(0, 100);
        int dot = within(0, 29);
        boolean is = draws.nextInt(3) == 0;
        switch (which) {
            case 16: same("like(" + s + ", " + set + ")", program.like(s, set), model.like(s, set)); break;
            case 17: same("seenAs(" + set + ")", program.seenAs(set), model.seenAs(set)); break;
            case 18: same("bestLamp(" + w + ", " + s + ", " + what + ")",
                program.bestLamp(w, s, what), model.bestLamp(w, s, what)); break;
            case 19: case 20: same("who(" + set + ", " + what + ")", program.who(set, what), model.who(set, what)); break;
            case 21: same("parted(" + set + ", " + what + ")", program.parted(set, what), model.parted(set, what)); break;
            case 22: same("places(" + w + ")", program.places(w), model.places(w)); break;
            case 23: same("apart(" + s + ", " + q + ", " + what + ")",
                program.apart(s, q, what), model.apart(s, q, what)); break;
            case 24: same("turned(" + set + ", " + what + ")", program.turned(set, what), model.turned(set, what)); break;
            case 25: same("votes(" + set + ", " + at + ")", program.votes(set, at), model.votes(set, at)); break;
            case 26: same("clear(" + n + ", " + part + ")", program.clear(n, part), model.clear(n, part)); break;
            case 27: case 28: same("tellOf(" + dot + ", " + is + ")", program.tellOf(dot, is), model.tellOf(dot, is)); break;
            case 29: case 30: same("ask()", program.ask(), model.ask()); break;
            default: same("tear()", program.tear(), model.tear()); break;
        }
    }

    private void looked(int s, int w, int what) {
        for (int i = 0; i < 16; i++) {
            same("told(" + i + ")", program.told(i), model.told(i));
        }
        int entry = within(0, 19);
        same("sitter(" + s + ", " + what + ")", program.sitter(s, what), model.sitter(s, what));
        same("window(" + w + ", " + what + ")", program.window(w, what), model.window(w, what));
        same("window(" + w + ", 3)", program.window(w, 3), model.window(w, 3));
        same("album(" + entry + ", " + what + ")", program.album(entry, what), model.album(entry, what));
        same("glass(" + what + ")", program.glass(what), model.glass(what));
        same("places(-1)", program.places(-1), model.places(-1));
    }
}
