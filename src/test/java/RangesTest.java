import java.util.ArrayList;
import java.util.List;

/**
 * Each number and each letter that a call takes, at its limits and one step on either side of them: within
 * them the call answers, beyond them it throws what the document tells, and changes nothing.
 */
public final class RangesTest {
    /**
     * The stage that a call needs, the method, and what it takes: '#' before the numbers of things (beyond
     * them IndexOutOfBoundsException), '?' before those of copies (NoSuchElementException), '+' before how
     * many leaves are taken (far too many are leaves that are not there), nothing before other numbers and
     * letters (IllegalArgumentException), '=' before what stays as it is. A '*' behind the method: within
     * the limits there may be none of what is asked for.
     */
    private static final String[] ROWS = {
        "new log wmoh 100-999 1-40 pcb", "new panel 100-2000 1-20 scb 5-40", "new air 4-20",
        "new gap 1-99 5-30 0-15", "new account fbporwl", "bought slice #0-2 fqrs 5-30",
        "open leaves #0-2", "open width #0-2 #0-23", "open area #0-2 #0-23", "open figure #0-2 #0-23",
        "open isUsed #0-2 #0-23", "open face #0-2 #0-2 #0-23 +1-8 bsr", "open back #0-2 #0-2 #0-23 +1-8",
        "open bestFirst #0-2 #0-2 1-8 bsr", "open isThrough #0-2", "open ghosts #0-2", "open price #0-2",
        "open draw #0-2 0-7 0-7 1-8 abcdefgh", "open draw #0-2 0-7 0-6 =2 abcdefgh",
        "open draw #0-2 0-7 0-1 =7 abcdefgh", "open draw #0-2 0-7 =7 1-1 abcdefgh",
        "open draw #0-2 0-7 =3 1-5 abcdefgh", "open fieldAt #0-2 #0-7 #0-7", "open pieces #0-2",
        "open islands #0-2", "open burnt #0-2", "open saw #0-2 #0-2 #0-22 +2-8", "open saw #0-2 #0-2 #0-16 =8",
        "laid jump #0-2", "laid press #0-2 0-60 1-99 0-60", "done slit #0-2", "done cup #0-2 4-20",
        "done isFlat #0-2", "done cupMonth #0-2", "done scrape #0-2 1-99", "done isThrough #0-2",
        "done pad #0-2 1-9", "done ghosts #0-2", "done price #0-2", "done leafAt #0-2 ?0-1 #0-7 #0-7",
        "done contrast #0-2 ?0-1", "done sand #0-2 abcdefgh 100-300 1-60", "done burnt #0-2",
        "done takeOffcut* 50-4000 1-20",
    };

    /** The leaves of a face and a back have their limit at each number of them: the last leaf is 23. */
    private static final String[] LAID = {"face", "back", "saw"};

    public static void main(String[] args) {
        for (String row : ROWS) {
            String[] words = row.split(" ");
            for (int at = 2; at < words.length; at++) {
                if (!words[at].startsWith("=")) {
                    limits(row, words, at);
                }
            }
        }
        for (String method : LAID) {
            for (int many = method.equals("saw") ? 2 : 1; many <= 8; many++) {
                lastLeaves(method, many);
            }
        }
        Run.end("RangesTest");
    }

    private static Run stage(String name, String stage) {
        Run run = new Run(name);
        int reached = List.of("new", "bought", "open", "laid", "done").indexOf(stage);
        for (int number = 0; number < 3; number++) {
            if (reached >= 1) {
                run.due(number, "log", 'w', 400, 20, 'p');
            }
            if (reached >= 2) {
                run.due(number, "slice", number, 'q', 10);
                run.due(number, "panel", 100, 5, 's', 10);
                run.due(number, "picture");
            }
            if (reached >= 3) {
                run.due(0, "face", number, number, 0, 1, 'b');
            }
            if (reached >= 4) {
                run.due(3, "press", number, 0, 1, 60);
                run.due(2 * 180 * 20 - 128, "saw", number, number, 1, 2);
            }
        }
        return run;
    }

    /** Tries one of the things that a call takes, and leaves the others at what is right. */
    private static void limits(String row, String[] words, int at) {
        Object[] arguments = new Object[words.length - 2];
        for (int i = 0; i < arguments.length; i++) {
            arguments[i] = right(words[i + 2]);
        }
        String method = words[1].replace("*", "");
        Run refused = stage("limits of " + row, words[0]);
        for (Object tried : isNumber(words[at]) ? numbers(words[at]) : letters()) {
            arguments[at - 2] = tried;
            String due = due(words[at], tried);
            if (!due.isEmpty()) {
                refused.due(due, method, arguments);
                continue;
            }
            String got = stage("limits of " + row, words[0]).answer(method, arguments);
            boolean none = words[1].endsWith("*") && got.equals(Run.NONE);
            Run.check(row + ": " + method + java.util.Arrays.toString(arguments) + " answered " + got,
                none || !got.contains("throws"));
        }
    }

    private static boolean isNumber(String word) {
        return word.matches("[#?+=]?\\d.*");
    }

    private static int least(String word) {
        return Integer.parseInt(word.replaceAll("^[#?+=]|-.*", ""));
    }

    private static int most(String word) {
        return Integer.parseInt(word.replaceAll(".*-", ""));
    }

    private static Object right(String word) {
        if (isNumber(word)) {
            return least(word);
        }
        return word.charAt(0);
    }

    private static List<Object> numbers(String word) {
        int least = least(word);
        int most = most(word);
        List<Object> tried = new ArrayList<>();
        for (int step = -1; step <= 1; step++) {
            tried.add(least + step);
            tried.add(most + step);
        }
        tried.addAll(List.of((least + most) / 2, Integer.MIN_VALUE, Integer.MAX_VALUE, -least - 1, 65536 + least));
        return tried;
    }

    private static List<Object> letters() {
        List<Object> tried = new ArrayList<>();
        for (char letter = 0; letter < 400; letter++) {
            tried.add(letter);
        }
        tried.addAll(List.of((char) 65535, (char) (65536 - 'a'), (char) ('a' + 512), (char) ('p' + 4096)));
        return tried;
    }

    /** The exception that is due, or nothing. */
    private static String due(String word, Object tried) {
        if (!isNumber(word)) {
            return word.indexOf((char) tried) >= 0 ? "" : Run.ARGUMENT;
        }
        int number = (int) tried;
        if (number >= least(word) && number <= most(word)) {
            return "";
        }
        boolean missing = word.startsWith("#") || word.startsWith("+") && number > 24;
        return missing ? Run.INDEX : word.startsWith("?") ? Run.NONE : Run.ARGUMENT;
    }

    private static void lastLeaves(String method, int many) {
        for (int first = 23 - many; first <= 25; first++) {
            Run run = stage("the last leaves, " + method + " of " + many, "open");
            Object[] arguments = method.equals("face") ? new Object[] {0, 1, first, many, 'b'}
                : new Object[] {0, 1, first, many};
            if (first + many > 24) {
                run.due(Run.INDEX, method, arguments);
                continue;
            }
            String got = run.answer(method, arguments);
            Run.check(method + " of " + many + " from " + first + " answered " + got, !got.contains("throws"));
            for (int leaf = 0; leaf < 24; leaf++) {
                run.due(leaf >= first && leaf < first + many, "isUsed", 1, leaf);
            }
        }
    }
}
