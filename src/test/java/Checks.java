import java.lang.reflect.InvocationTargetException;
import java.lang.reflect.Method;
import java.lang.reflect.Modifier;
import java.util.Arrays;
import java.util.Comparator;

/** Counts the answers that are not as due, and tells each. */
final class Checks {
    private int wrong = 0;
    private int asked = 0;
    /** The test that is under way, ahead of what is told of a wrong answer. */
    private String test = "";

    void due(String call, int got, int want) {
        asked++;
        if (got != want) {
            wrong++;
            System.out.println(test + call + " answered " + got + ", due is " + want);
        }
    }

    void holds(String what, boolean is) {
        due(what, is ? 1 : 0, 1);
    }

    void same(String what, String got, String want) {
        asked++;
        if (!got.equals(want)) {
            wrong++;
            System.out.println(test + what + "\n  is     " + got + "\n  due is " + want);
        }
    }

    /** Every static method without parameters is a test of its own: so none can be left out of a list. */
    void runAll(Class<?> tests) throws ReflectiveOperationException {
        Method[] methods = tests.getDeclaredMethods();
        Arrays.sort(methods, Comparator.comparing(Method::getName));
        for (Method method : methods) {
            boolean isTest = Modifier.isStatic(method.getModifiers()) && !Modifier.isPrivate(method.getModifiers())
                && method.getParameterCount() == 0;
            if (isTest) {
                runOne(method);
            }
        }
        test = "";
        end();
    }

    private void runOne(Method method) throws ReflectiveOperationException {
        test = method.getName() + ": ";
        int before = asked;
        try {
            method.invoke(null);
        } catch (InvocationTargetException thrown) {
            holds("ended by " + thrown.getCause(), false);
        }
        holds("asks for something", asked > before);
    }

    void end() {
        System.out.println(asked + " checks, " + wrong + " wrong");
        if (wrong != 0 || asked == 0) {
            System.exit(1);
        }
    }
}
