import java.io.IOException;
import java.nio.file.Files;
import java.nio.file.Path;
import java.util.HashMap;
import java.util.Map;
import java.util.regex.Matcher;
import java.util.regex.Pattern;

/** The example of README.md: each call answers what stands behind it. */
public final class ReadmeTest {
    private static final Pattern CALL =
        Pattern.compile("(int|boolean) (\\w+) = loft\\.(\\w+)\\((.*)\\); +// (\\w+).*");

    public static void main(String[] args) throws IOException {
        Run run = new Run("README.md");
        Map<String, Object> answers = new HashMap<>();
        for (String line : Files.readAllLines(Path.of(args[0], "README.md"))) {
            Matcher call = CALL.matcher(line);
            if (call.matches()) {
                Object due = call.group(1).equals("int") ? thing(call.group(5), answers) : call.group(5);
                run.due(due, call.group(3), arguments(call.group(4), answers));
                answers.put(call.group(2), due);
            } else {
                Run.check("a call without an answer: " + line, !line.contains("= loft."));
            }
        }
        Run.check("the example has calls", answers.size() >= 18);
        Run.end("ReadmeTest");
    }

    private static Object[] arguments(String list, Map<String, Object> answers) {
        String[] words = list.isEmpty() ? new String[0] : list.split(", ");
        Object[] arguments = new Object[words.length];
        for (int i = 0; i < words.length; i++) {
            arguments[i] = thing(words[i], answers);
        }
        return arguments;
    }

    /** A letter, a number, or what an earlier call answered. */
    private static Object thing(String word, Map<String, Object> answers) {
        if (word.startsWith("'")) {
            return word.charAt(1);
        }
        return answers.containsKey(word) ? answers.get(word) : (Object) Integer.valueOf(word);
    }
}
