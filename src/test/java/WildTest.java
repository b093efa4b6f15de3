import java.lang.reflect.Method;
import java.util.Arrays;
import java.util.Map;
import java.util.TreeMap;

/**
 * Long runs of right and wrong calls, the same ones every time: each answers what the model answers, no call
 * ends in an exception that the document does not tell for it, nor in one of the machine's, and the accounts
 * stay true.
 */
public final class WildTest {
    private static final int[] EDGES = {
        Integer.MIN_VALUE, Integer.MIN_VALUE + 1, -1000000, -65536, -100, -9, -1, 65535, 1000000,
        Integer.MAX_VALUE - 1, Integer.MAX_VALUE,
    };

    /** Each method with what its arguments are drawn from when they are right: a range or letters. */
    private static final String[] CALLS = {
        "log wmoh 100-999 5-40 pcb", "slice 0-7 fqrs 5-30", "leaves 0-7", "width 0-7 0-23", "area 0-7 0-23",
        "figure 0-7 0-23", "isUsed 0-7 0-23", "panel 100-500 1-12 scb 5-40", "face 0-7 0-7 0-20 1-4 bsr",
        "face 0-7 0-7 0-20 1-4 bsr", "back 0-7 0-7 0-18 1-8", "back 0-7 0-7 0-18 1-8", "jump 0-7",
        "bestFirst 0-7 0-7 1-8 bsr", "press 0-7 0-60 1-99 0-60", "press 0-7 0-60 1-99 0-60", "slit 0-7",
        "air 4-20", "cup 0-7 4-20", "isFlat 0-7", "cupMonth 0-7", "scrape 0-7 1-99", "isThrough 0-7",
        "pad 0-7 1-9", "rest", "ghosts 0-7", "picture", "draw 0-3 0-7 0-7 1-4 abcdefgh",
        "draw 0-3 0-7 0-7 1-4 abcdefgh", "fieldAt 0-3 0-7 0-7", "pieces 0-3", "islands 0-3",
        "saw 0-3 0-7 0-18 2-8", "leafAt 0-3 0-5 0-7 0-7", "contrast 0-3 0-5", "sand 0-3 abcdefgh 100-300 1-60",
        "burnt 0-3", "gap 1-99 5-30 0-15", "offcuts 50-300", "takeOffcut 50-400 1-8", "account fbporwl",
        "price 0-7", "usedShare", "meanFigure", "checksum", "isTrue",
    };

    private static final String[] BEGINNING = {
        "log wmoh 200-999 8-40 pcb", "panel 100-300 1-8 scb 5-40", "slice 0-7 fqrs 5-30", "picture",
        "slice 0-3 fqrs 5-30",
    };

    private static final Map<String, Integer> answered = new TreeMap<>();
    private static long seed = 20261119;

    public static void main(String[] args) throws NoSuchMethodException {
        for (int number = 0; number < 60; number++) {
            wildRun(number);
        }
        for (String call : CALLS) {
            String method = call.split(" ")[0];
            Run.check("hardly an answer of " + method, answered.getOrDefault(method, 0) >= 40);
        }
        Run.end("WildTest");
    }

    private static void wildRun(int number) throws NoSuchMethodException {
        Run run = new Run("wild run " + number);
        Model model = new Model();
        int wildness = number % 2 == 0 ? 8 : 40;
        for (int call = 0; call < 512; call++) {
            String[] words = choose(call).split(" ");
            wildCall(run, model, "wild run " + number + ", call " + call, words, wildness);
        }
    }

    /** The first calls buy and begin; sawing comes late, so that there is something drawn. */
    private static String choose(int call) {
        if (call < 40) {
            return BEGINNING[call % BEGINNING.length];
        }
        String chosen = CALLS[next(CALLS.length)];
        return call < 200 && chosen.startsWith("saw") ? "rest" : chosen;
    }

    private static void wildCall(Run run, Model model, String name, String[] words, int wildness)
            throws NoSuchMethodException {
        Object[] arguments = new Object[words.length - 1];
        for (int i = 0; i < arguments.length; i++) {
            arguments[i] = argument(words[i + 1], next(wildness) == 0);
        }
        String got = run.answer(words[0], arguments);
        String due = model.answer(words[0], arguments);
        String called = words[0] + Arrays.toString(arguments);
        Run.check(name + ": " + called + " answered " + got + ", the model " + due, got.equals(due));
        Run.check(name + ": " + words[0] + " answered " + got, isTold(Run.methodOf(words[0]), got));
        Run.check(name + ": untrue after " + words[0], run.loft.isTrue());
        if (!got.contains("throws")) {
            answered.merge(words[0], 1, Integer::sum);
        }
    }

    private static Object argument(String kind, boolean wild) {
        if (!Character.isDigit(kind.charAt(0))) {
            return wild ? (char) next(65536) : kind.charAt(next(kind.length()));
        }
        int dash = kind.indexOf('-');
        int least = Integer.parseInt(kind.substring(0, dash));
        int most = Integer.parseInt(kind.substring(dash + 1));
        if (!wild) {
            return least + next(most - least + 1);
        }
        int edge = next(EDGES.length + 4);
        return edge < EDGES.length ? EDGES[edge] : edge % 2 == 0 ? least - 1 : most + 1;
    }

    private static boolean isTold(Method method, String got) {
        if (!got.contains("throws")) {
            return !got.startsWith("no call");
        }
        for (Class<?> told : method.getExceptionTypes()) {
            if (got.equals("throws." + told.getSimpleName())) {
                return true;
            }
        }
        return false;
    }

    private static int next(int bound) {
        seed = seed * 6364136223846793005L + 1442695040888963407L;
        return (int) ((seed >>> 33) % bound);
    }
}
