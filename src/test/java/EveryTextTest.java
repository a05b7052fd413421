/** Every short text of the letters that texts are made of, alone and behind a beginning, is read as the model reads it. */
public final class EveryTextTest {
    private static final String LETTERS = "gswc,;036 x";
    private static final String FULL_HOUSE = "g1;s0,0,0,0,0;s0,0,0,0,0;s0,0,0,0,0;s0,0,0,0,0;s0,0,0,0,0;s0,0,0,0,0;"
        + "w0;w0;w0;w0;w0;c1;c1;c1;c1;c1;c1;";
    private static final Checks CHECKS = new Checks();

    private EveryTextTest() {
    }

    public static void main(String[] args) {
        everyTextBehind("", 5);
        everyTextBehind("g", 4);
        everyTextBehind("g3;", 4);
        everyTextBehind("g3;s6,6,6", 4);
        everyTextBehind("g3;s6,6,6,6,", 4);
        everyTextBehind(FULL_HOUSE, 2);
        CHECKS.end();
    }

    private static void everyTextBehind(String beginning, int letters) {
        told(beginning);
        for (int i = 0; i < LETTERS.length() && letters > 0; i++) {
            everyTextBehind(beginning + LETTERS.charAt(i), letters - 1);
        }
    }

    private static void told(String text) {
        GnatPortraits program = new GnatPortraits();
        Model model = new Model();
        for (int i = 0; i < text.length(); i++) {
            program.feed(text.charAt(i));
            model.feed(text.charAt(i));
        }
        CHECKS.due("capital of '" + text + "'", program.capital(), model.capital());
        CHECKS.due("fault of '" + text + "'", program.fault(), model.fault());
        CHECKS.due("gnats of '" + text + "'", program.told(0), model.told(0));
        CHECKS.due("windows of '" + text + "'", program.told(2), model.told(2));
        CHECKS.due("critics of '" + text + "'", program.told(3), model.told(3));
        CHECKS.due("outline in '" + text + "'", program.sitter(0, 0), model.sitter(0, 0));
        CHECKS.due("lamp in '" + text + "'", program.window(0, 0), model.window(0, 0));
    }
}
