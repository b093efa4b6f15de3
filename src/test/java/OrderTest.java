import java.util.ArrayList;
import java.util.List;

/**
 * Calls for which several exceptions apply: each thing that a call takes is tried right and wrong, in all
 * ways together, and of the exceptions that apply the one that the document lists first is due.
 */
public final class OrderTest {
    /**
     * Each method and what it takes: a right one, and wrong ones with the first letter of the exception
     * behind them: I IndexOutOfBounds, A IllegalArgument, U UnsupportedOperation, N NoSuchElement.
     */
    private static final String[] ROWS = {
        "slice 3,0U,-1I,4I f,xA 10,4A,31A", "leaves 0,-1I,3I", "width 0,-1I,3I 0,-1I,24I",
        "area 0,-1I,3I 0,-1I,24I", "figure 0,-1I,3I 0,-1I,24I", "isUsed 0,-1I,3I 0,-1I,24I",
        "face 0,1U,5U,-1I,6I 0,1U,2U,-1I,3I 0,4U,10U,-1I,24I 1,0A,9A b,xA",
        "back 0,1U,2U,5U,-1I,6I 0,1U,2U,-1I,3I 0,4U,10U,-1I,24I 1,0A,9A",
        "jump 1,0N,-1I,6I", "bestFirst 0,5N,-1I,6I 0,1N,2N,-1I,3I 1,0A,9A b,xA",
        "press 1,0U,2U,-1I,6I 0,-1A,61A 5,0A,100A 0,-1A,61A", "slit 2,0N,1N,3N,-1I,6I", "air 4,3A,21A",
        "cup 2,0U,1U,-1I,6I 8,3A,21A", "isFlat 2,0U,1U,-1I,6I", "cupMonth 2,0U,1U,4N,-1I,6I",
        "scrape 2,0U,1U,3U,-1I,6I 5,0A,100A", "isThrough 0,-1I,6I", "pad 2,0U,1U,-1I,6I 1,0A,10A",
        "ghosts 0,-1I,6I", "draw 0,1U,-1I,2I 0,-1A,8A 0,-1A,8A 1,0A,9A b,iA,`A",
        "fieldAt 0,-1I,2I 0,-1I,8I 0,-1I,8I", "pieces 0,-1I,2I", "islands 0,-1I,2I",
        "saw 0,1U,-1I,2I 0,2U,-1I,3I 0,4U,10U,-1I,24I 2,1A,9A", "leafAt 1,0N,-1I,2I 0,-1N,2N 0,-1I,8I 0,-1I,8I",
        "contrast 1,0N,-1I,2I 0,-1N,2N", "sand 1,0U,-1I,2I a,`A,iA 200,99A,301A 10,0A,61A",
        "burnt 0,-1I,2I", "gap 1,0A,100A 5,4A,31A 0,-1A,16A", "takeOffcut 80,49A,4001A,81N 5,0A,21A,6N",
        "account l,xA", "price 0,-1I,6I",
    };

    /** Tried with none made, and once more when no more can be had: then IllegalStateException applies too. */
    private static final String[] MAKING_ROWS = {
        "log w,xA 400,99A,1000A 10,0A,41A p,xA", "panel 400,99A,2001A 8,0A,21A s,xA 9,4A,41A",
    };

    private static final List<String> LISTED =
        List.of("", Run.INDEX, Run.ARGUMENT, Run.STATE, Run.UNSUPPORTED, Run.NONE);

    public static void main(String[] args) {
        for (String row : ROWS) {
            tryAll(row, "");
        }
        for (String row : MAKING_ROWS) {
            tryAll(row, "");
            tryAll(row, "full");
        }
        Run full = full("picture");
        full.due(Run.STATE, "picture");
        Run.end("OrderTest");
    }

    /**
     * Flitches of leaves 180 wide and 20 long, 180 wide and 4 long, 30 wide and 20 long; the log 3 is not
     * sliced. Panels 100 wide and 5 high: 0 is bare; 1 has a face and a back; 2 is pressed and has no back;
     * 3 is through; 4 is flat at each air; 5 is wider than any leaf. The picture 1 is sawn, 0 is not.
     */
    private static Run stage(String name) {
        Run run = new Run(name);
        run.due(0, "log", 'w', 400, 20, 'p');
        run.due(1, "log", 'w', 400, 4, 'p');
        run.due(2, "log", 'w', 100, 20, 'p');
        run.due(3, "log", 'w', 400, 20, 'p');
        for (int number = 0; number < 3; number++) {
            run.due(number, "slice", number, 'q', 10);
        }
        for (int number = 0; number < 6; number++) {
            run.due(number, "panel", number == 5 ? 2000 : 100, 5, 's', 10);
        }
        run.due(0, "face", 1, 0, 4, 1, 'b');
        run.due(2700, "back", 1, 0, 5, 1);
        run.due(0, "face", 2, 0, 6, 1, 'b');
        run.due(0, "face", 3, 0, 7, 1, 'b');
        run.due(0, "face", 4, 0, 8, 1, 'b');
        run.due(2700, "back", 4, 0, 9, 1);
        run.due(3, "press", 2, 0, 1, 60);
        run.due(0, "press", 3, 60, 99, 0);
        run.due(0, "press", 4, 60, 99, 0);
        run.due(1, "scrape", 3, 99);
        run.due(2, "pad", 2, 1);
        run.due(0, "picture");
        run.due(1, "picture");
        run.due(7200 - 128, "saw", 1, 0, 10, 2);
        return run;
    }

    /** No more of what the method makes can be had. */
    private static Run full(String method) {
        Run run = new Run("full, " + method);
        for (int number = 0; number < (method.equals("picture") ? 4 : 8); number++) {
            if (method.equals("log")) {
                run.due(number, "log", 'w', 400, 10, 'p');
            } else if (method.equals("panel")) {
                run.due(number, "panel", 400, 8, 's', 9);
            } else {
                run.due(number, "picture");
            }
        }
        return run;
    }

    private static void tryAll(String row, String stage) {
        String[] words = row.split(" ");
        List<Object[]> tried = new ArrayList<>();
        List<Integer> due = new ArrayList<>();
        tried.add(new Object[0]);
        due.add(stage.isEmpty() ? 0 : LISTED.indexOf(Run.STATE));
        for (int at = 1; at < words.length; at++) {
            List<Object[]> longer = new ArrayList<>();
            List<Integer> longerDue = new ArrayList<>();
            for (int i = 0; i < tried.size(); i++) {
                for (String word : words[at].split(",")) {
                    longer.add(with(tried.get(i), word));
                    longerDue.add(first(due.get(i), told(word)));
                }
            }
            tried = longer;
            due = longerDue;
        }
        callAll(words[0], stage, tried, due);
    }

    private static void callAll(String method, String stage, List<Object[]> tried, List<Integer> due) {
        Run run = stage.isEmpty() ? stage("order, " + method) : full(method);
        for (int i = 0; i < tried.size(); i++) {
            if (due.get(i) > 0) {
                run.due(LISTED.get(due.get(i)), method, tried.get(i));
            } else {
                String got = stage("order, " + method).answer(method, tried.get(i));
                Run.check(method + java.util.Arrays.toString(tried.get(i)) + " answered " + got,
                    !got.contains("throws"));
            }
        }
    }

    private static Object[] with(Object[] arguments, String word) {
        Object[] longer = java.util.Arrays.copyOf(arguments, arguments.length + 1);
        longer[arguments.length] = word.charAt(0);
        if (word.matches("-?\\d.*")) {
            longer[arguments.length] = Integer.parseInt(word.replaceAll("[A-Z]$", ""));
        }
        return longer;
    }

    /** Where in the list of exceptions that stands which is told for a word; 0 if none is. */
    private static int told(String word) {
        char last = word.charAt(word.length() - 1);
        return last < 'A' || last > 'Z' ? 0 : " IASUN".indexOf(last);
    }

    private static int first(int one, int other) {
        return one == 0 ? other : other == 0 ? one : Math.min(one, other);
    }
}
