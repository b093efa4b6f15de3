/** Promises 25 to 35: pictures, their pieces and islands, packets, copies, hot sand and gaps. */
public final class PicturesTest {
    public static void main(String[] args) {
        pictures();
        draws();
        drawOrder();
        pieces();
        islands();
        saws();
        sawOrder();
        sawWidths();
        copies();
        contrasts();
        sands();
        sandOrder();
        gaps();
        Run.end("PicturesTest");
    }

    /** Plain walnut, 10 long, flat at 10: widths 346, 346, 348, 348, 350 .., figures 25, 24 down to 18, and again. */
    private static Run flat(String name) {
        Run run = new Run(name);
        run.due(0, "log", 'w', 400, 10, 'p');
        run.due(0, "slice", 0, 'f', 10);
        run.due(0, "picture");
        return run;
    }

    private static void pictures() {
        Run run = new Run("25, 27 picture");
        run.due(Run.INDEX, "fieldAt", 0, 0, 0);
        run.due(Run.INDEX, "pieces", 0);
        run.due(Run.INDEX, "islands", 0);
        run.due(Run.INDEX, "burnt", 0);
        for (int number = 0; number < 4; number++) {
            run.due(number, "picture");
            run.due(1, "pieces", number);
            run.due(0, "islands", number);
            run.due(0, "burnt", number);
        }
        run.due(Run.STATE, "picture");
        for (int row = 0; row < 8; row++) {
            for (int column = 0; column < 8; column++) {
                run.due('a', "fieldAt", 3, row, column);
            }
        }
        run.due(Run.INDEX, "fieldAt", 4, 0, 0);
        run.due(Run.INDEX, "fieldAt", -1, 0, 0);
        run.due(Run.INDEX, "fieldAt", 0, 8, 0);
        run.due(Run.INDEX, "fieldAt", 0, -1, 0);
        run.due(Run.INDEX, "fieldAt", 0, 0, 8);
        run.due(Run.INDEX, "fieldAt", 0, 0, -1);
        run.due(Run.INDEX, "pieces", 4);
        run.due(Run.INDEX, "pieces", -1);
        run.due(Run.INDEX, "islands", 4);
        run.due(Run.INDEX, "islands", -1);
        run.due(Run.INDEX, "burnt", 4);
        run.due(Run.INDEX, "burnt", -1);
    }

    private static void draws() {
        Run run = new Run("26, 27 draw");
        run.due(0, "picture");
        run.due(1, "picture");
        run.due(2, "draw", 0, 3, 2, 3, 'h');
        run.due('a', "fieldAt", 0, 3, 1);
        run.due('h', "fieldAt", 0, 3, 2);
        run.due('h', "fieldAt", 0, 3, 3);
        run.due('h', "fieldAt", 0, 3, 4);
        run.due('a', "fieldAt", 0, 3, 5);
        run.due('a', "fieldAt", 0, 2, 3);
        run.due('a', "fieldAt", 0, 4, 3);
        run.due('a', "fieldAt", 1, 3, 3);
        run.due(1, "pieces", 1);
        // The row of 'c' parts 'a' in two.
        run.due(4, "draw", 0, 5, 0, 8, 'c');
        run.due(5, "draw", 0, 7, 7, 1, 'b');
        run.due('b', "fieldAt", 0, 7, 7);
        run.due('c', "fieldAt", 0, 5, 0);
        run.due('c', "fieldAt", 0, 5, 7);
        run.due(4, "draw", 0, 3, 0, 8, 'a');
        run.due('a', "fieldAt", 0, 3, 3);
    }

    private static void drawOrder() {
        Run run = flat("26 draw, wrong calls");
        run.due(Run.INDEX, "draw", 1, 0, 0, 1, 'b');
        run.due(Run.INDEX, "draw", -1, 8, 0, 1, 'z');
        run.due(Run.ARGUMENT, "draw", 0, 0, 0, 1, 'i');
        run.due(Run.ARGUMENT, "draw", 0, 0, 0, 1, '`');
        run.due(Run.ARGUMENT, "draw", 0, 0, 0, 1, 'A');
        run.due(Run.ARGUMENT, "draw", 0, 0, 0, 1, (char) 65535);
        run.due(Run.ARGUMENT, "draw", 0, -1, 0, 1, 'b');
        run.due(Run.ARGUMENT, "draw", 0, 8, 0, 1, 'b');
        run.due(Run.ARGUMENT, "draw", 0, 0, -1, 1, 'b');
        run.due(Run.ARGUMENT, "draw", 0, 0, -1, 2, 'b');
        run.due(Run.ARGUMENT, "draw", 0, 0, 8, 1, 'b');
        run.due(Run.ARGUMENT, "draw", 0, 0, 0, 0, 'b');
        run.due(Run.ARGUMENT, "draw", 0, 0, 0, 9, 'b');
        run.due(Run.ARGUMENT, "draw", 0, 0, 1, 8, 'b');
        run.due(Run.ARGUMENT, "draw", 0, 0, 7, 2, 'b');
        run.due(Run.ARGUMENT, "draw", 0, 0, 3, Integer.MAX_VALUE, 'b');
        run.due(Run.ARGUMENT, "draw", 0, 0, 3, Integer.MIN_VALUE, 'b');
        run.due(Run.ARGUMENT, "draw", 0, 0, Integer.MAX_VALUE, 1, 'b');
        run.due(1, "pieces", 0);
        run.answer("saw", 0, 0, 0, 2);
        run.due(Run.UNSUPPORTED, "draw", 0, 0, 0, 1, 'b');
        run.due(Run.UNSUPPORTED, "draw", 0, 0, 0, 1, 'a');
        run.due(Run.ARGUMENT, "draw", 0, 0, 0, 1, 'i');
        run.due(Run.ARGUMENT, "draw", 0, 0, 0, 9, 'b');
    }

    /** Draws rows of letters, and checks pieces and islands. */
    private static void shape(int pieces, int islands, String... rows) {
        Run run = new Run("28, 29 " + String.join("/", rows));
        run.due(0, "picture");
        for (int row = 0; row < 8; row++) {
            for (int column = 0; column < 8; column++) {
                run.answer("draw", 0, row, column, 1, rows[row].charAt(column));
            }
        }
        run.due(pieces, "pieces", 0);
        run.due(islands, "islands", 0);
        run.due(true, "isTrue");
    }

    private static void pieces() {
        shape(64, 36, "abababab", "babababa", "abababab", "babababa", "abababab", "babababa", "abababab", "babababa");
        shape(8, 0, "aaaaaaaa", "bbbbbbbb", "cccccccc", "dddddddd", "eeeeeeee", "ffffffff", "gggggggg", "hhhhhhhh");
        shape(8, 0, "abcdefgh", "abcdefgh", "abcdefgh", "abcdefgh", "abcdefgh", "abcdefgh", "abcdefgh", "abcdefgh");
        // One that winds through all rows, and one beside it.
        shape(2, 0, "bbbbbbbb", "aaaaaaab", "bbbbbbab", "baaaabab", "babbbbab", "baaaaaab", "bbbbbbbb", "bbbbbbbb");
        // Diagonals do not join.
        shape(5, 2, "baaaaaaa", "abaaaaaa", "aabaaaaa", "aaaaaaaa", "aaaaaaaa", "aaaaaaaa", "aaaaaaaa", "aaaaaaab");
        // A row's end and the next row's start do not join.
        shape(3, 0, "aaaaaaab", "baaaaaaa", "aaaaaaaa", "aaaaaaaa", "aaaaaaaa", "aaaaaaaa", "aaaaaaaa", "aaaaaaaa");
        shape(1, 0, "hhhhhhhh", "hhhhhhhh", "hhhhhhhh", "hhhhhhhh", "hhhhhhhh", "hhhhhhhh", "hhhhhhhh", "hhhhhhhh");
    }

    private static void islands() {
        // At each edge, and beside it.
        shape(5, 0, "aaabaaaa", "aaaaaaaa", "aaaaaaaa", "baaaaaab", "aaaaaaaa", "aaaaaaaa", "aaaaaaaa", "aaabaaaa");
        shape(5, 4, "aaaaaaaa", "abaaaaba", "aaaaaaaa", "aaaaaaaa", "aaaaaaaa", "aaaaaaaa", "abaaaaba", "aaaaaaaa");
        // A ring with another field within is none, with the same around and within it is one.
        shape(3, 1, "aaaaaaaa", "aaaaaaaa", "aabbbaaa", "aabcbaaa", "aabbbaaa", "aaaaaaaa", "aaaaaaaa", "aaaaaaaa");
        shape(3, 2, "aaaaaaaa", "aaaaaaaa", "aabbbaaa", "aababaaa", "aabbbaaa", "aaaaaaaa", "aaaaaaaa", "aaaaaaaa");
        // Two beside each other have two fields around, above, below, left or right.
        shape(3, 0, "aaaaaaaa", "aaaaaaaa", "aabbaaaa", "aaccaaaa", "aaaaaaaa", "aaaaaaaa", "aaaaaaaa", "aaaaaaaa");
        shape(3, 0, "aaaaaaaa", "aaaaaaaa", "aabcaaaa", "aabcaaaa", "aaaaaaaa", "aaaaaaaa", "aaaaaaaa", "aaaaaaaa");
        // One that touches the edge with one place of many, and one that touches another by its corner.
        shape(2, 0, "aaaaaaaa", "aaaaaaaa", "aabbbaaa", "aabaaaaa", "aabaaaaa", "aabaaaaa", "aabaaaaa", "aabaaaaa");
        shape(3, 2, "aaaaaaaa", "aaaaaaaa", "aabaaaaa", "aaacaaaa", "aaaaaaaa", "aaaaaaaa", "aaaaaaaa", "aaaaaaaa");
        // What is around may be of many pieces of one field.
        shape(6, 1, "aaaaaaaa", "aaaaaaaa", "aaabaaaa", "aabcbaaa", "aaabaaaa", "aaaaaaaa", "aaaaaaaa", "aaaaaaaa");
        shape(3, 1, "bbbbbbbb", "bbbbbbbb", "bbcccbbb", "bbcccbbb", "bbbcbbbb", "bbbbbbbb", "bbbbbbbb", "abbbbbbb");
    }

    private static void saws() {
        Run run = flat("30 saw");
        run.due(346 * 20 - 128, "saw", 0, 0, 0, 2);
        run.due(128, "account", 'p');
        run.due(6792, "account", 'w');
        run.due(0, "account", 'o');
        run.due(0, "account", 'f');
        run.due(true, "isUsed", 0, 0);
        run.due(true, "isUsed", 0, 1);
        run.due(false, "isUsed", 0, 2);
        run.due(1, "picture");
        run.due((348 + 348 + 350 + 350 + 352 + 354 + 354 + 356) * 10 - 512, "saw", 1, 0, 2, 8);
        run.due(640, "account", 'p');
        run.due(true, "isTrue");
    }

    private static void sawOrder() {
        Run run = flat("30 saw, wrong calls");
        run.due(Run.INDEX, "saw", 1, 0, 0, 2);
        run.due(Run.INDEX, "saw", -1, 0, 0, 0);
        run.due(Run.INDEX, "saw", 0, 1, 0, 2);
        run.due(Run.INDEX, "saw", 0, -1, 0, 2);
        run.due(Run.INDEX, "saw", 0, 0, -1, 2);
        run.due(Run.INDEX, "saw", 0, 0, 24, 2);
        run.due(Run.INDEX, "saw", 0, 0, 24, 1);
        run.due(Run.INDEX, "saw", 0, 0, 23, 2);
        run.due(Run.INDEX, "saw", 0, 0, 17, 9);
        run.due(Run.INDEX, "saw", 0, 0, 1, Integer.MAX_VALUE);
        run.due(Run.ARGUMENT, "saw", 0, 0, 23, 1);
        run.due(Run.ARGUMENT, "saw", 0, 0, 0, 1);
        run.due(Run.ARGUMENT, "saw", 0, 0, 0, 0);
        run.due(Run.ARGUMENT, "saw", 0, 0, 0, 9);
        run.due(Run.ARGUMENT, "saw", 0, 0, 0, Integer.MIN_VALUE);
        run.due(1, "picture");
        run.answer("saw", 0, 0, 5, 2);
        run.due(Run.UNSUPPORTED, "saw", 0, 0, 0, 2);
        run.due(Run.ARGUMENT, "saw", 0, 0, 0, 1);
        run.due(Run.UNSUPPORTED, "saw", 1, 0, 4, 2);
        run.due(Run.UNSUPPORTED, "saw", 1, 0, 6, 2);
        run.due(0, "panel", 300, 2, 's', 10);
        run.due(0, "face", 0, 0, 10, 1, 'b');
        run.due(Run.UNSUPPORTED, "saw", 1, 0, 9, 2);
        run.due(Run.UNSUPPORTED, "face", 0, 0, 5, 1, 'b');
        run.due(3480 + 3500 - 128, "saw", 1, 0, 3, 2);
    }

    private static void sawWidths() {
        // A quarter of 99 radius is 79 wide, of 100 it is 80.
        Run run = new Run("30 saw, widths");
        run.due(0, "log", 'h', 199, 1, 'p');
        run.due(0, "slice", 0, 'q', 10);
        run.due(1, "log", 'h', 200, 1, 'p');
        run.due(1, "slice", 1, 'q', 10);
        run.due(0, "picture");
        run.due(Run.UNSUPPORTED, "saw", 0, 0, 0, 2);
        run.due(32, "saw", 0, 1, 0, 2);
        // Round at 30: 300 less 18 for each.
        run.due(2, "log", 'h', 100, 1, 'p');
        run.due(2, "slice", 2, 's', 30);
        run.due(84, "width", 2, 12);
        run.due(66, "width", 2, 13);
        run.due(1, "picture");
        run.due(Run.UNSUPPORTED, "saw", 1, 2, 12, 2);
        run.due(102 + 84 - 128, "saw", 1, 2, 11, 2);
        run.due(true, "isTrue");
    }

    private static void copies() {
        Run run = flat("31 leafAt");
        run.due(2, "draw", 0, 3, 3, 1, 'b');
        run.due(3, "draw", 0, 0, 0, 1, 'h');
        run.due(Run.NONE, "leafAt", 0, 0, 3, 3);
        run.due(Run.INDEX, "leafAt", 0, 0, 8, 3);
        run.due(Run.INDEX, "leafAt", 1, 0, 3, 3);
        run.answer("saw", 0, 0, 2, 3);
        run.due(2, "leafAt", 0, 0, 0, 1);
        run.due(3, "leafAt", 0, 0, 3, 3);
        run.due(3, "leafAt", 0, 0, 0, 0);
        run.due(3, "leafAt", 0, 1, 7, 7);
        run.due(4, "leafAt", 0, 1, 3, 3);
        run.due(4, "leafAt", 0, 1, 0, 0);
        run.due(4, "leafAt", 0, 2, 7, 0);
        run.due(2, "leafAt", 0, 2, 3, 3);
        run.due(2, "leafAt", 0, 2, 0, 0);
        run.due(Run.NONE, "leafAt", 0, 3, 0, 0);
        run.due(Run.NONE, "leafAt", 0, -1, 0, 0);
        run.due(Run.NONE, "leafAt", 0, Integer.MAX_VALUE, 3, 3);
        run.due(Run.INDEX, "leafAt", 0, 3, 8, 0);
        run.due(Run.INDEX, "leafAt", 0, 0, -1, 0);
        run.due(Run.INDEX, "leafAt", 0, 0, 0, 8);
        run.due(Run.INDEX, "leafAt", 0, 0, 0, -1);
        run.due(Run.INDEX, "leafAt", -1, 0, 0, 0);
        run.due(Run.INDEX, "leafAt", 1, 9, 0, 0);
    }

    private static void contrasts() {
        Run run = flat("32 contrast");
        run.due(2, "draw", 0, 3, 3, 1, 'b');
        run.due(3, "draw", 0, 7, 7, 1, 'b');
        run.due(4, "draw", 0, 0, 0, 2, 'd');
        run.due(Run.NONE, "contrast", 0, 0);
        run.due(Run.INDEX, "contrast", 1, 0);
        run.due(Run.INDEX, "contrast", -1, 0);
        // The figures are 23, 22, 21; 'b' has four and two places beside it, 'd' has the leaf of 'a'.
        run.answer("saw", 0, 0, 2, 3);
        run.due(6, "contrast", 0, 0);
        run.due(6, "contrast", 0, 1);
        run.due(12, "contrast", 0, 2);
        run.due(Run.NONE, "contrast", 0, 3);
        run.due(Run.NONE, "contrast", 0, -1);
        run.due(1, "picture");
        run.due(2, "draw", 1, 0, 0, 2, 'd');
        // The figures are 18, 25, 24, 23, 22: 'a' with 'd' is 5 at first, and three places are joined.
        run.answer("saw", 1, 0, 7, 5);
        run.due(15, "contrast", 1, 0);
        run.due(9, "contrast", 1, 1);
        run.due(18, "contrast", 1, 2);
        run.due(6, "contrast", 1, 3);
        run.due(6, "contrast", 1, 4);
        run.due(2, "picture");
        run.answer("saw", 2, 0, 12, 2);
        run.due(0, "contrast", 2, 0);
        run.due(0, "contrast", 2, 1);
        run.due(Run.NONE, "contrast", 2, 2);
    }

    private static void sands() {
        Run run = flat("33, 34 sand");
        run.answer("saw", 0, 0, 0, 2);
        run.due(80, "sand", 0, 'b', 300, 20);
        run.due(0, "burnt", 0);
        run.due(92, "sand", 0, 'b', 300, 3);
        run.due(1, "burnt", 0);
        run.due(0, "sand", 0, 'a', 101, 49);
        run.due(1, "sand", 0, 'a', 101, 50);
        run.due(2, "sand", 0, 'a', 101, 60);
        run.due(2, "sand", 0, 'a', 100, 60);
        run.due(90, "sand", 0, 'h', 200, 45);
        run.due(1, "burnt", 0);
        run.due(91, "sand", 0, 'h', 150, 1);
        run.due(2, "burnt", 0);
        run.due(99, "sand", 0, 'c', 300, 60);
        run.due(99, "sand", 0, 'c', 300, 60);
        run.due(99, "sand", 0, 'b', 200, 4);
        run.due(3, "burnt", 0);
        run.due(98, "sand", 0, 'd', 200, 49);
        run.due(4, "burnt", 0);
        run.due(99, "sand", 0, 'a', 300, 60);
        run.due(5, "burnt", 0);
        run.due(1, "picture");
        run.due(0, "burnt", 1);
    }

    private static void sandOrder() {
        Run run = flat("33 sand, wrong calls");
        run.due(Run.UNSUPPORTED, "sand", 0, 'a', 200, 10);
        run.due(Run.ARGUMENT, "sand", 0, 'i', 200, 10);
        run.due(Run.ARGUMENT, "sand", 0, '`', 200, 10);
        run.due(Run.ARGUMENT, "sand", 0, 'a', 99, 10);
        run.due(Run.ARGUMENT, "sand", 0, 'a', 301, 10);
        run.due(Run.ARGUMENT, "sand", 0, 'a', 200, 0);
        run.due(Run.ARGUMENT, "sand", 0, 'a', 200, 61);
        run.due(Run.INDEX, "sand", 1, 'a', 200, 10);
        run.due(Run.INDEX, "sand", -1, 'i', 200, 10);
        run.answer("saw", 0, 0, 0, 2);
        run.due(Run.ARGUMENT, "sand", 0, 'i', 200, 10);
        run.due(Run.ARGUMENT, "sand", 0, 'a', 99, 10);
        run.due(Run.ARGUMENT, "sand", 0, 'a', 301, 10);
        run.due(Run.ARGUMENT, "sand", 0, 'a', 200, 0);
        run.due(Run.ARGUMENT, "sand", 0, 'a', 200, 61);
        run.due(0, "burnt", 0);
    }

    private static void gaps() {
        Run run = new Run("35 gap");
        int[] thousandths = {0, 17, 35, 52, 70, 87, 105, 123, 141, 158, 176, 194, 213, 231, 249, 268};
        for (int bevel = 0; bevel <= 15; bevel++) {
            for (int thickness = 5; thickness <= 30; thickness++) {
                for (int kerf = 1; kerf <= 99; kerf += 7) {
                    int due = kerf - (int) Math.floor(thickness * thousandths[bevel] / 100.0);
                    run.due(due < 0 ? 0 : due, "gap", kerf, thickness, bevel);
                }
            }
        }
        run.due(99, "gap", 99, 30, 0);
        run.due(19, "gap", 99, 30, 15);
        run.due(0, "gap", 80, 30, 15);
        run.due(1, "gap", 81, 30, 15);
        run.due(0, "gap", 1, 30, 15);
        run.due(Run.ARGUMENT, "gap", 0, 10, 5);
        run.due(Run.ARGUMENT, "gap", 100, 10, 5);
        run.due(Run.ARGUMENT, "gap", 50, 4, 5);
        run.due(Run.ARGUMENT, "gap", 50, 31, 5);
        run.due(Run.ARGUMENT, "gap", 50, 10, -1);
        run.due(Run.ARGUMENT, "gap", 50, 10, 16);
        run.due(Run.ARGUMENT, "gap", 50, 10, Integer.MAX_VALUE);
        run.due(Run.ARGUMENT, "gap", 50, 10, Integer.MIN_VALUE);
    }
}
