import java.io.IOException;
import java.lang.reflect.Method;
import java.nio.file.Files;
import java.nio.file.Path;
import java.util.regex.Matcher;
import java.util.regex.Pattern;

/** README.md's example answers as its comments say, and every call is named there; run from the project's root. */
public final class ReadmeTest {
    private static final Pattern TEXT = Pattern.compile("String text = \"([^\"]*)\";");
    private static final Pattern CALL = Pattern.compile("(?m)^g\\.(\\w+)\\(([^)]*)\\);\\s*// (-?\\d+|[A-Z]+)\\b");
    private static final int FEWEST_CALLS = 10;

    public static void main(String[] args) throws IOException, ReflectiveOperationException {
        Checks checks = new Checks();
        String readme = Files.readString(Path.of("README.md"));
        for (Method method : GnatPortraits.class.getMethods()) {
            if (method.getDeclaringClass() == GnatPortraits.class) {
                checks.holds(method.getName() + " is named", readme.contains("`" + method.getName() + "`"));
            }
        }
        GnatPortraits g = new GnatPortraits();
        Matcher text = TEXT.matcher(readme);
        checks.holds("a text", text.find());
        for (char letter : text.group(1).toCharArray()) {
            g.feed(letter);
        }
        int calls = 0;
        Matcher call = CALL.matcher(readme);
        while (call.find()) {
            checks.due(call.group(), answer(g, call.group(1), call.group(2)), due(call.group(3)));
            calls++;
        }
        checks.holds("an example of several calls", calls >= FEWEST_CALLS);
        checks.end();
    }

    private static int answer(GnatPortraits g, String name, String numbers) throws ReflectiveOperationException {
        String[] words = numbers.isBlank() ? new String[0] : numbers.split(", ");
        Class<?>[] types = new Class<?>[words.length];
        Object[] values = new Object[words.length];
        for (int i = 0; i < words.length; i++) {
            boolean isNumber = !words[i].equals("true") && !words[i].equals("false");
            types[i] = isNumber ? int.class : boolean.class;
            values[i] = isNumber ? (Object) Integer.valueOf(words[i]) : Boolean.valueOf(words[i]);
        }
        return (Integer) GnatPortraits.class.getMethod(name, types).invoke(g, values);
    }

    private static int due(String word) throws ReflectiveOperationException {
        return Character.isLetter(word.charAt(0))
            ? GnatPortraits.class.getField(word).getInt(null) : Integer.parseInt(word);
    }
}
