import java.lang.reflect.Array;
import java.lang.reflect.Field;
import java.lang.reflect.InvocationTargetException;
import java.lang.reflect.Method;
import java.lang.reflect.Modifier;
import java.util.List;
import java.util.Set;

/**
 * A run of calls on one new loft. Every call is checked for its answer; a call that throws, and a call
 * that only asks, is checked for leaving the loft as it was, and an exception for coming from a throw
 * statement of the class itself.
 */
final class Run {
    static final String INDEX = "throws.IndexOutOfBoundsException";
    static final String ARGUMENT = "throws.IllegalArgumentException";
    static final String STATE = "throws.IllegalStateException";
    static final String UNSUPPORTED = "throws.UnsupportedOperationException";
    static final String NONE = "throws.NoSuchElementException";
    static final String ARITHMETIC = "throws.ArithmeticException";

    private static final Set<String> CHANGING = Set.of("log", "slice", "panel", "face", "back", "press",
        "slit", "air", "scrape", "pad", "rest", "picture", "draw", "saw", "sand", "takeOffcut");

    private static int passed;
    private static int failed;

    final VeneerLoft loft = new VeneerLoft();
    private final String name;

    Run(String name) {
        this.name = name;
    }

    /** Calls a method of the face and compares its answer, written as a text, with the one that is due. */
    void due(Object want, String method, Object... args) {
        String got = answer(method, args);
        check(name + ": " + method + java.util.Arrays.toString(args) + " answered " + got + ", due is " + want,
            got.equals(want.toString()));
    }

    String answer(String method, Object... args) {
        String before = stateOf(loft);
        String got;
        try {
            got = String.valueOf(methodOf(method).invoke(loft, args));
        } catch (InvocationTargetException e) {
            got = nameOf(e.getCause());
        } catch (ReflectiveOperationException e) {
            got = "no call: " + e;
        }
        if (got.startsWith("throws.") || !CHANGING.contains(method)) {
            check(name + ": " + method + java.util.Arrays.toString(args) + " (" + got + ") changed the loft",
                before.equals(stateOf(loft)));
        }
        return got;
    }

    static void check(String what, boolean holds) {
        if (holds) {
            passed++;
        } else {
            failed++;
            System.out.println("FAILED " + what);
        }
    }

    /** Prints how many checks passed and failed, and ends with 1 if one failed. */
    static void end(String test) {
        System.out.println(test + ": " + passed + " passed, " + failed + " failed");
        if (failed > 0 || passed == 0) {
            System.exit(1);
        }
    }

    private static String nameOf(Throwable thrown) {
        StackTraceElement[] trace = thrown.getStackTrace();
        boolean own = trace.length > 0 && trace[0].getClassName().startsWith("VeneerLoft");
        boolean written = thrown.getMessage() == null || !thrown.getMessage().contains("by zero");
        return (own && written ? "throws." : "the machine throws ") + thrown.getClass().getSimpleName();
    }

    static Method methodOf(String name) throws NoSuchMethodException {
        for (Method method : VeneerLoft.class.getDeclaredMethods()) {
            if (method.getName().equals(name) && Modifier.isPublic(method.getModifiers())) {
                return method;
            }
        }
        throw new NoSuchMethodException(name);
    }

    /** All that an object holds, written as a text. */
    static String stateOf(Object object) {
        StringBuilder text = new StringBuilder();
        write(object, text);
        return text.toString();
    }

    private static void write(Object object, StringBuilder text) {
        if (object == null || object instanceof Number || object instanceof String
            || object instanceof Boolean || object instanceof Character) {
            text.append(object).append(' ');
        } else if (object instanceof List<?> list) {
            text.append('[');
            list.forEach(part -> write(part, text));
            text.append(']');
        } else if (object.getClass().isArray()) {
            text.append('[');
            for (int i = 0; i < Array.getLength(object); i++) {
                write(Array.get(object, i), text);
            }
            text.append(']');
        } else {
            writeFields(object, text);
        }
    }

    private static void writeFields(Object object, StringBuilder text) {
        text.append('{');
        for (Field field : object.getClass().getDeclaredFields()) {
            if (!Modifier.isStatic(field.getModifiers())) {
                field.setAccessible(true);
                try {
                    write(field.get(object), text.append(field.getName()).append('='));
                } catch (IllegalAccessException e) {
                    throw new IllegalStateException(e);
                }
            }
        }
        text.append('}');
    }
}
