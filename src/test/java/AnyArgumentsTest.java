import java.lang.reflect.InvocationTargetException;
import java.lang.reflect.Method;
import java.util.Arrays;
import java.util.Comparator;
import java.util.Random;

/**
 * LANGUAGE.md's rules 7 and 13: no call throws, for any arguments in any state, behind the 512th call too, and the
 * same calls give the same answers. What the answers are is for the other tests.
 */
public final class AnyArgumentsTest {
    private static final int RUNS = 60;
    private static final int CALLS = 3000;
    private static final int[] EDGES = {
        Integer.MIN_VALUE, Integer.MIN_VALUE + 1, -1000000001, -64, -4, -3, -2, -1, 0, 1, 2, 3, 4, 5, 6, 7, 15, 16, 19,
        20, 29, 30, 31, 32, 60, 61, 63, 64, 100, 101, 240, 255, 256, 9000, 1073741823, 1073741824, Integer.MAX_VALUE
    };
    private static final String[] TEXTS = {
        "", "g1;", "g30;s63,63,63,63,63;", "g2;w5;w0;", Scenes.CITY, Scenes.CROWD, Scenes.SMALL, "g1;s", "g1;c99;", "x"
    };

    private AnyArgumentsTest() {
    }

    public static void main(String[] args) throws ReflectiveOperationException {
        Checks checks = new Checks();
        Method[] face = Arrays.stream(GnatPortraits.class.getMethods())
            .filter(method -> method.getDeclaringClass() == GnatPortraits.class)
            .sorted(Comparator.comparing(Method::getName)).toArray(Method[]::new);
        for (int run = 0; run < RUNS; run++) {
            GnatPortraits g = new GnatPortraits();
            GnatPortraits twin = new GnatPortraits();
            Random draws = new Random(run);
            for (int i = 0; i < CALLS; i++) {
                if (draws.nextInt(200) == 0) {
                    String text = TEXTS[draws.nextInt(TEXTS.length)];
                    checks.due("run " + run + ": '" + text + "'", Scenes.tell(g, text), Scenes.tell(twin, text));
                }
                Method method = face[draws.nextInt(face.length)];
                Object[] values = values(method, draws);
                String call = "run " + run + ": " + method.getName() + Arrays.toString(values);
                same(checks, call, made(method, g, values), made(method, twin, values));
            }
        }
        checks.end();
    }

    private static Object[] values(Method method, Random draws) {
        Object[] values = new Object[method.getParameterCount()];
        for (int i = 0; i < values.length; i++) {
            if (method.getParameterTypes()[i] == boolean.class) {
                values[i] = draws.nextBoolean();
            } else {
                int kind = draws.nextInt(8);
                values[i] = kind == 0 ? draws.nextInt() : kind < 4 ? EDGES[draws.nextInt(EDGES.length)] : draws.nextInt(6);
            }
        }
        return values;
    }

    private static Object made(Method method, GnatPortraits g, Object[] values) throws IllegalAccessException {
        try {
            return method.invoke(g, values);
        } catch (InvocationTargetException thrown) {
            return thrown.getCause();
        }
    }

    private static void same(Checks checks, String call, Object got, Object want) {
        if (got instanceof Integer && want instanceof Integer) {
            checks.due(call, (Integer) got, (Integer) want);
        } else {
            checks.holds(call + " ended by " + got, false);
        }
    }
}
