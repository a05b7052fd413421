import java.lang.reflect.Constructor;
import java.lang.reflect.Field;
import java.lang.reflect.Method;
import java.lang.reflect.Modifier;
import java.util.Arrays;
import java.util.TreeSet;

/**
 * The public face is the document's and no more, no private method bears a public one's name, and the fields
 * are of the kinds that LANGUAGE.md leaves.
 */
public final class FaceTest {
    private static final int MOST_FIELDS = 20;
    private static final String[] FACE = {
        "feed(int)", "capital()", "fault()", "told(int)", "sitter(int,int)", "window(int,int)", "album(int,int)",
        "glass(int)", "stand(int,int)", "go(int)", "lamp(int,int)", "wind(int)", "bats(int)", "eye(int)",
        "rain(boolean)", "smoke(int,boolean)", "press(int,int)", "dusk(int)", "drift(int)", "undo()",
        "like(int,int)", "seenAs(int)", "bestLamp(int,int,int)", "who(int,int)", "parted(int,int)", "places(int)",
        "apart(int,int,int)", "turned(int,int)", "votes(int,int)", "clear(int,int)", "tellOf(int,boolean)",
        "ask()", "tear()", "seed(int)", "keep(int)", "goBack(int)"
    };

    public static void main(String[] args) {
        Checks checks = new Checks();
        Class<?> face = GnatPortraits.class;
        checks.holds("public and final", Modifier.isPublic(face.getModifiers()) && Modifier.isFinal(face.getModifiers()));
        TreeSet<String> seen = new TreeSet<>();
        TreeSet<String> names = new TreeSet<>();
        for (Method method : face.getDeclaredMethods()) {
            if (!Modifier.isPrivate(method.getModifiers())) {
                checks.holds(method + " is public, of the object, and answers a number",
                    method.getModifiers() == Modifier.PUBLIC && method.getReturnType() == int.class);
                seen.add(signature(method));
                names.add(method.getName());
            }
        }
        checks.holds("methods " + seen, seen.equals(new TreeSet<>(Arrays.asList(FACE))));
        for (Class<?> inside : face.getDeclaredClasses()) {
            checks.holds(inside + " is static", Modifier.isStatic(inside.getModifiers()));
            noneIsCalledAlike(checks, inside, names);
            fieldsAreOfTheKinds(checks, inside);
        }
        noneIsCalledAlike(checks, face, names);
        fieldsAreOfTheKinds(checks, face);
        TreeSet<String> constants = new TreeSet<>();
        for (Field field : face.getDeclaredFields()) {
            if (!Modifier.isPrivate(field.getModifiers())) {
                constants.add(field.getName());
            }
        }
        checks.holds("constants " + constants,
            constants.equals(new TreeSet<>(Arrays.asList("NONE", "UNKNOWN", "OUTSIDE", "NOT", "FULL"))));
        Constructor<?>[] made = face.getDeclaredConstructors();
        checks.holds("one public constructor",
            made.length == 1 && made[0].getParameterCount() == 0 && Modifier.isPublic(made[0].getModifiers()));
        checks.due("NONE", GnatPortraits.NONE, -1);
        checks.due("UNKNOWN", GnatPortraits.UNKNOWN, -1000000001);
        checks.due("OUTSIDE", GnatPortraits.OUTSIDE, -1000000002);
        checks.due("NOT", GnatPortraits.NOT, -1000000003);
        checks.due("FULL", GnatPortraits.FULL, -1000000004);
        checks.end();
    }

    private static void noneIsCalledAlike(Checks checks, Class<?> owner, TreeSet<String> names) {
        for (Method method : owner.getDeclaredMethods()) {
            if (!Modifier.isPublic(method.getModifiers())) {
                checks.holds(method + " has a name of its own", !names.contains(method.getName()));
            }
        }
    }

    /** Static ones are constants of whole numbers; the others numbers, own classes, arrays of one dimension of these. */
    private static void fieldsAreOfTheKinds(Checks checks, Class<?> owner) {
        int changing = 0;
        for (Field field : owner.getDeclaredFields()) {
            if (Modifier.isStatic(field.getModifiers())) {
                checks.holds(field + " is a constant",
                    Modifier.isFinal(field.getModifiers()) && field.getType() == int.class);
            } else {
                changing++;
                Class<?> type = field.getType().isArray() ? field.getType().getComponentType() : field.getType();
                checks.holds(field + " is of a kind that is left",
                    type.isPrimitive() || type.getDeclaringClass() == GnatPortraits.class);
            }
        }
        checks.holds(owner + " has few fields", changing <= MOST_FIELDS);
    }

    private static String signature(Method method) {
        StringBuilder text = new StringBuilder(method.getName()).append('(');
        for (Class<?> type : method.getParameterTypes()) {
            if (text.charAt(text.length() - 1) != '(') {
                text.append(',');
            }
            text.append(type.getName());
        }
        return text.append(')').toString();
    }
}
