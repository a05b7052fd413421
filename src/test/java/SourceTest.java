import java.io.IOException;
import java.nio.charset.StandardCharsets;
import java.nio.file.Files;
import java.nio.file.Path;
import java.util.HashSet;
import java.util.Set;
import java.util.regex.Matcher;
import java.util.regex.Pattern;

/** Rules of LANGUAGE.md that can be seen from the words of the source; run from the project's root. */
public final class SourceTest {
    private static final String[] RULED_OUT = {
        "throw", "throws", "try", "catch", "synchronized", "assert", "import", "package", "protected", "double",
        "float", "Exception", "Error", "Object", "Exact", "hashCode", "Random", "System\\.(?!arraycopy)", "Thread",
        "->", "::", "instanceof", "\\bstatic\\s*\\{"
    };
    /** Of what rule 4 lists, the part that the source has a use for: another name must be looked up there first. */
    private static final Set<String> LIBRARY = Set.of("Integer.bitCount", "Math.max", "Math.min", "Math.floorMod",
        "System.arraycopy");
    private static final int LONGEST_METHOD = 60;
    private static final int MOST_PARAMETERS = 7;
    private static final int MOST_CLASSES = 12;

    public static void main(String[] args) throws IOException {
        String source = Files.readString(Path.of("src/main/java/GnatPortraits.java"), StandardCharsets.ISO_8859_1);
        Checks checks = new Checks();
        checks.holds("signs 1 to 127 alone", source.chars().allMatch(c -> c > 0 && c < 128));
        String code = source.replaceAll("(?s)/\\*.*?\\*/", "").replaceAll("//[^\n]*", "");
        for (String word : RULED_OUT) {
            String pattern = Character.isLetter(word.charAt(0)) ? "\\b" + word + (word.endsWith(")") ? "" : "\\b") : word;
            checks.holds("without " + word, !Pattern.compile(pattern).matcher(code).find());
        }
        Set<String> own = new HashSet<>();
        Matcher classes = Pattern.compile("\\b(?:class|enum|record|interface) ([A-Z]\\w*)").matcher(code);
        while (classes.find()) {
            own.add(classes.group(1));
        }
        checks.holds("few classes", !own.isEmpty() && own.size() <= MOST_CLASSES);
        libraryAsListed(checks, code, own);
        fewParameters(checks, code);
        shortMethods(checks, source.split("\n"));
        checks.end();
    }

    /** A class's name has small letters too, a constant's has none. */
    private static void libraryAsListed(Checks checks, String code, Set<String> own) {
        Matcher used = Pattern.compile("\\b([A-Z]\\w*[a-z]\\w*)\\.(\\w+)").matcher(code);
        while (used.find()) {
            checks.holds(used.group() + " is listed", own.contains(used.group(1)) || LIBRARY.contains(used.group()));
        }
    }

    private static void fewParameters(Checks checks, String code) {
        Matcher heads = Pattern.compile("\\b(?:public|private) [^=;{(]*\\(([^)]*)\\) \\{").matcher(code);
        while (heads.find()) {
            checks.holds(heads.group() + " has few parameters", heads.group(1).split(",").length <= MOST_PARAMETERS);
        }
    }

    /** A method begins with a line that ends in ") {" and ends with a brace in the same column. */
    private static void shortMethods(Checks checks, String[] lines) {
        Pattern head = Pattern.compile("^( {4}| {8})(public|private) [^=]*\\) \\{$");
        for (int i = 0; i < lines.length; i++) {
            Matcher found = head.matcher(lines[i]);
            if (found.find()) {
                int end = i;
                while (end < lines.length && !lines[end].equals(found.group(1) + "}")) {
                    end++;
                }
                checks.holds(lines[i].trim() + " is short", end - i < LONGEST_METHOD);
            }
        }
    }
}
