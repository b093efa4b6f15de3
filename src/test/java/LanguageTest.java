import java.io.IOException;
import java.nio.file.Files;
import java.nio.file.Path;
import java.util.ArrayList;
import java.util.List;
import java.util.regex.Matcher;
import java.util.regex.Pattern;

/** What ../shared/LANGUAGE.md forbids and can be seen in the text of the class. */
public final class LanguageTest {
    private static final String[] FORBIDDEN = {
        "\\bsynchronized\\b", "\\bassert\\b", "\\bfinally\\b", "\\brecord\\b", "\\bprotected\\b", "->", "::",
        "Exact\\b", "\\bcatch\\b", "\\btry\\b", "\\bvar\\b", "\\bThread\\b", "\\bSystem\\.(?!arraycopy)",
        "\\bRandom\\b", "\\bMath\\.(?!(min|max|abs|floorDiv|floorMod)\\b)", "\\bpackage\\b", "\\bstatic \\{",
        "\\bObject\\b", "\\bequals\\b", "\\bhashCode\\b", "\\btoString\\b", "\\blong\\[\\]\\[", "\" \\+", "\\+ \"",
    };

    public static void main(String[] args) throws IOException {
        List<String> lines = code(Files.readAllLines(Path.of(args[0], "src", "main", "java", "VeneerLoft.java")));
        List<String> imports = new ArrayList<>();
        for (int at = 0; at < lines.size(); at++) {
            String line = lines.get(at);
            for (String forbidden : FORBIDDEN) {
                boolean found = Pattern.compile(forbidden).matcher(line).find();
                Run.check("line " + (at + 1) + " has " + forbidden + ": " + line.trim(), !found);
            }
            Run.check("line " + (at + 1) + " is of the signs 1 to 127", line.chars().allMatch(c -> c < 128));
            if (line.startsWith("import ")) {
                imports.add(line);
            }
        }
        imports.removeAll(List.of("import java.util.ArrayList;", "import java.util.NoSuchElementException;"));
        Run.check("imports " + imports, imports.isEmpty());
        statics(lines);
        throwsOf(lines);
        methods(lines);
        Run.end("LanguageTest");
    }

    /** The lines without their comments. */
    private static List<String> code(List<String> lines) {
        List<String> code = new ArrayList<>();
        boolean inside = false;
        for (String line : lines) {
            boolean starts = line.contains("/*");
            boolean ends = line.contains("*/");
            code.add(inside || starts ? "" : line.replaceAll("//.*", ""));
            inside = (inside || starts) && !ends;
        }
        return code;
    }

    private static void statics(List<String> lines) {
        Pattern field = Pattern.compile("\\bstatic\\b[^(]*(=|;)");
        for (String line : lines) {
            if (field.matcher(line).find()) {
                Run.check("a static field that is not final: " + line, line.contains("static final"));
            }
        }
    }

    private static void throwsOf(List<String> lines) {
        Pattern right = Pattern.compile("throw new (IllegalState|IllegalArgument|IndexOutOfBounds|Arithmetic"
            + "|UnsupportedOperation|NoSuchElement)(Exception)\\((\"[^\"]*\")?\\);");
        for (String line : lines) {
            if (line.contains("throw ")) {
                Matcher matcher = right.matcher(line);
                Run.check("a throw of another form: " + line, matcher.find());
            }
        }
    }

    /** No method has more than sixty lines, none takes more than seven parameters. */
    private static void methods(List<String> lines) {
        Pattern head = Pattern.compile("^( {4}| {8})(?=[A-Za-z])(?!.*\\b(class|return|if|for|new)\\b).*\\(");
        int started = -1;
        String end = "";
        for (int at = 0; at < lines.size(); at++) {
            Matcher matcher = head.matcher(lines.get(at));
            if (started < 0 && matcher.find() && !lines.get(at).contains("=")) {
                started = at;
                end = matcher.group(1) + "}";
                int commas = lines.get(at).replaceAll("throws.*", "").replaceAll("[^,]", "").length();
                Run.check("more than seven parameters: " + lines.get(at), commas < 7);
            } else if (started >= 0 && lines.get(at).equals(end)) {
                Run.check("a long method at line " + (started + 1), at - started < 60);
                started = -1;
            }
        }
        Run.check("a method without an end at line " + (started + 1), started < 0);
    }
}
