import java.io.IOException;
import java.lang.reflect.Constructor;
import java.lang.reflect.Field;
import java.lang.reflect.Method;
import java.lang.reflect.Modifier;
import java.nio.file.Files;
import java.nio.file.Path;
import java.util.Set;
import java.util.TreeSet;

/** The class has the public face of the document, and nothing beside it that can be seen. */
public final class FaceTest {
    public static void main(String[] args) throws IOException {
        Set<String> due = documented(Path.of(args[0], "..", "shared", "DOC.md"));
        Set<String> got = declared();
        Run.check("the document tells 43 members", due.size() == 43);
        for (String member : due) {
            Run.check("missing: " + member, got.contains(member));
        }
        for (String member : got) {
            Run.check("not in the document: " + member, due.contains(member));
        }
        int modifiers = VeneerLoft.class.getModifiers();
        Run.check("public and final", Modifier.isPublic(modifiers) && Modifier.isFinal(modifiers));
        Run.check("no package", VeneerLoft.class.getPackageName().isEmpty());
        for (Class<?> inside : VeneerLoft.class.getDeclaredClasses()) {
            int kind = inside.getModifiers();
            boolean hidden = !Modifier.isPublic(kind) && !Modifier.isProtected(kind);
            Run.check(inside + " is hidden and static", hidden && Modifier.isStatic(kind));
            for (Method method : inside.getDeclaredMethods()) {
                Run.check(method + " bears a public name", !isPublicName(method.getName()));
            }
        }
        Run.end("FaceTest");
    }

    private static Set<String> documented(Path document) throws IOException {
        Set<String> members = new TreeSet<>();
        for (String line : Files.readAllLines(document)) {
            if (line.startsWith("    public ")) {
                String bare = line.trim().replace(";", "").replaceAll("(int|char) \\w+(?=[,)])", "$1");
                members.add(bare.replace("public ", ""));
            }
        }
        return members;
    }

    private static Set<String> declared() {
        Set<String> members = new TreeSet<>();
        for (Constructor<?> made : VeneerLoft.class.getDeclaredConstructors()) {
            if (!Modifier.isPrivate(made.getModifiers())) {
                members.add("VeneerLoft" + listed("(", made.getParameterTypes(), ")")
                    + listed(" throws ", made.getExceptionTypes(), ""));
            }
        }
        for (Method method : VeneerLoft.class.getDeclaredMethods()) {
            if (!Modifier.isPrivate(method.getModifiers()) && !method.isSynthetic()) {
                String thrown = listed(" throws ", method.getExceptionTypes(), "");
                members.add(method.getReturnType().getSimpleName() + " " + method.getName()
                    + listed("(", method.getParameterTypes(), ")") + (thrown.equals(" throws ") ? "" : thrown));
            }
        }
        for (Field field : VeneerLoft.class.getDeclaredFields()) {
            if (!Modifier.isPrivate(field.getModifiers()) && !field.isSynthetic()) {
                members.add("the field " + field);
            }
        }
        members.remove("VeneerLoft() throws ");
        members.add("VeneerLoft()");
        return members;
    }

    private static String listed(String before, Class<?>[] types, String after) {
        StringBuilder text = new StringBuilder(before);
        for (int i = 0; i < types.length; i++) {
            text.append(i == 0 ? "" : ", ").append(types[i].getSimpleName());
        }
        return text.append(after).toString();
    }

    private static boolean isPublicName(String name) {
        try {
            return Run.methodOf(name) != null;
        } catch (NoSuchMethodException e) {
            return false;
        }
    }
}
