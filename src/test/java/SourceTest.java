import java.io.IOException;
import java.nio.charset.StandardCharsets;
import java.nio.file.Files;
import java.nio.file.Path;
import java.util.regex.Matcher;
import java.util.regex.Pattern;

/** Rules of LANGUAGE.md that can be seen from the words of the source; run from the project's root. */
public final class SourceTest {
    private static final String[] RULED_OUT = {
        "throw", "throws", "try", "catch", "synchronized", "assert", "import", "package", "protected", "double",
        "float", "Exception", "Error", "Object", "Exact", "hashCode", "Random", "System\\.(?!arraycopy)", "Thread",
        "->", "::", "instanceof", "\\bstatic\\s*\\{"
    };
    private static final int LONGEST_METHOD = 60;
    private static final int MOST_CLASSES = 12;

    public static void main(String[] args) throws IOException {
        String source = Files.readString(Path.of("src/main/java/GnatPortraits.java"), StandardCharsets.ISO_8859_1);
        Checks checks = new Checks();
        checks.holds("signs 1 to 127 alone", source.chars().allMatch(c -> c > 0 && c < 128));
        String code = source.replaceAll("(?s)/\\*.*?\\*/", "").replaceAll("//[^\n]*", "");
        for (String word : RULED_OUT) {
            String pattern = Character.isLetter(word.charAt(0)) ? "\\b" + word + (word.endsWith(")") ? "" : "\\b") : word;
            checks.holds("without " + word, !Pattern.compile(pattern).matcher(code).find());
        }
        Matcher classes = Pattern.compile("\\b(class|enum|record|interface) [A-Z]").matcher(code);
        checks.holds("few classes", classes.results().count() <= MOST_CLASSES);
        shortMethods(checks, source.split("\n"));
        checks.end();
    }

    /** A method begins with a line that ends in ") {" and ends with a brace in the same column. */
    private static void shortMethods(Checks checks, String[] lines) {
        Pattern head = Pattern.compile("^( {4}| {8})(public|private) [^=]*\\) \\{$");
        for (int i = 0; i < lines.length; i++) {
            Matcher found = head.matcher(lines[i]);
            if (found.find()) {
                int end = i;
                while (end < lines.length && !lines[end].equals(found.group(1) + "}")) {
                    end++;
                }
                checks.holds(lines[i].trim() + " is short", end - i < LONGEST_METHOD);
            }
        }
    }
}
