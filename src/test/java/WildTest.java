import java.lang.reflect.Method;
import java.lang.reflect.Modifier;
import java.util.ArrayList;
import java.util.Comparator;
import java.util.List;

/**
 * Long runs of right and wrong calls, the same ones every time: no call ends in an exception that the
 * document does not tell for it, nor in one of the machine's, and the accounts stay true.
 */
public final class WildTest {
    private static final int[] EDGES = {
        Integer.MIN_VALUE, Integer.MIN_VALUE + 1, -1000000, -65536, -100, -9, -1, 65535, 1000000,
        Integer.MAX_VALUE - 1, Integer.MAX_VALUE,
    };
    private static final String LETTERS = "wmohpcbfqrsabcdefghlx";
    private static long seed = 20261119;

    public static void main(String[] args) {
        List<Method> methods = new ArrayList<>();
        for (Method method : VeneerLoft.class.getDeclaredMethods()) {
            if (Modifier.isPublic(method.getModifiers())) {
                methods.add(method);
            }
        }
        methods.sort(Comparator.comparing(Method::getName));
        for (int number = 0; number < 60; number++) {
            wildRun(number, methods);
        }
        Run.end("WildTest");
    }

    private static void wildRun(int number, List<Method> methods) {
        Run run = new Run("wild run " + number);
        if (number % 3 != 0) {
            furnish(run);
        }
        int wildness = number % 2 == 0 ? 4 : 30;
        for (int call = 0; call < 400; call++) {
            Method method = methods.get(next(methods.size()));
            String got = run.answer(method.getName(), arguments(method, wildness));
            Run.check("wild run " + number + ": " + method.getName() + " answered " + got, isTold(method, got));
            Run.check("wild run " + number + ": untrue after " + method.getName(), run.loft.isTrue());
        }
    }

    /** Logs, flitches, panels and pictures, so that more of the calls find what they name. */
    private static void furnish(Run run) {
        for (int i = 0; i < 6; i++) {
            run.answer("log", "wmoh".charAt(i % 4), 200 + 150 * i, 20 - i, "pcb".charAt(i % 3));
            run.answer("slice", i, "sfqr".charAt(i % 4), 5 + 4 * i);
            run.answer("panel", 100 + 60 * i, 1 + i, "scb".charAt(i % 3), 5 + 7 * i);
        }
        run.answer("picture");
        run.answer("picture");
    }

    private static boolean isTold(Method method, String got) {
        if (!got.contains("throws")) {
            return !got.startsWith("no call");
        }
        for (Class<?> told : method.getExceptionTypes()) {
            if (got.equals("throws." + told.getSimpleName())) {
                return true;
            }
        }
        return false;
    }

    private static Object[] arguments(Method method, int wildness) {
        Class<?>[] types = method.getParameterTypes();
        Object[] arguments = new Object[types.length];
        for (int i = 0; i < types.length; i++) {
            boolean wild = next(wildness) == 0;
            if (types[i] == char.class) {
                arguments[i] = wild ? (char) next(65536) : LETTERS.charAt(next(LETTERS.length()));
            } else {
                arguments[i] = wild ? EDGES[next(EDGES.length)] : number();
            }
        }
        return arguments;
    }

    /** Mostly small ones, as most numbers of the document are. */
    private static int number() {
        int kind = next(10);
        return kind < 5 ? next(4) : kind < 8 ? next(25) : kind < 9 ? next(300) : next(2100);
    }

    private static int next(int bound) {
        seed = seed * 6364136223846793005L + 1442695040888963407L;
        return (int) ((seed >>> 33) % bound);
    }
}
