/** Promises 9 to 13: panels, faces, backs, jumps and the best first leaf. */
public final class PanelsTest {
    public static void main(String[] args) {
        panels();
        faces();
        faceOrder();
        faceRest();
        stripsAndHeights();
        backs();
        backOrder();
        jumps();
        bestFirst();
        bestFirstOrder();
        Run.end("PanelsTest");
    }

    /**
     * A plain walnut of 200 radius and 10 long, flat at 10: the widths are 346, 346, 348, 348, 350, 350,
     * 352, 354, 354, 356 .., the figures 25, 24 down to 18, and again.
     */
    private static Run flat(String name) {
        Run run = new Run(name);
        run.due(0, "log", 'w', 400, 10, 'p');
        run.due(0, "slice", 0, 'f', 10);
        return run;
    }

    private static void panels() {
        Run run = new Run("9 panel");
        run.due(Run.ARGUMENT, "panel", 99, 8, 's', 10);
        run.due(Run.ARGUMENT, "panel", 2001, 8, 's', 10);
        run.due(Run.ARGUMENT, "panel", 600, 0, 's', 10);
        run.due(Run.ARGUMENT, "panel", 600, 21, 's', 10);
        run.due(Run.ARGUMENT, "panel", 600, 8, 'x', 10);
        run.due(Run.ARGUMENT, "panel", 600, 8, 'S', 10);
        run.due(Run.ARGUMENT, "panel", 600, 8, 's', 4);
        run.due(Run.ARGUMENT, "panel", 600, 8, 's', 41);
        run.due(Run.INDEX, "price", 0);
        run.due(0, "panel", 100, 1, 's', 5);
        run.due(1, "panel", 2000, 20, 'c', 40);
        run.due(2, "panel", 600, 8, 'b', 10);
        for (int number = 3; number < 8; number++) {
            run.due(number, "panel", 600, 8, 'b', 10);
        }
        run.due(Run.STATE, "panel", 600, 8, 'b', 10);
        run.due(Run.ARGUMENT, "panel", 99, 8, 'b', 10);
        run.due(Run.ARGUMENT, "panel", 600, 8, 'q', 10);
        run.due(0, "price", 7);
        run.due(Run.INDEX, "price", 8);
    }

    private static void faces() {
        Run run = flat("10 face");
        run.due(0, "panel", 600, 8, 's', 10);
        run.due(1, "face", 0, 0, 0, 2, 'b');
        run.due(4800, "account", 'f');
        run.due(0, "account", 'b');
        run.due(2120, "account", 'w');
        run.due(0, "account", 'o');
        run.due(true, "isUsed", 0, 0);
        run.due(true, "isUsed", 0, 1);
        run.due(false, "isUsed", 0, 2);
        run.due(Run.UNSUPPORTED, "face", 0, 0, 2, 2, 'b');
        run.due(1, "panel", 600, 8, 's', 10);
        run.due(Run.UNSUPPORTED, "face", 1, 0, 1, 2, 's');
        run.due(Run.UNSUPPORTED, "face", 1, 0, 0, 2, 's');
        run.due(6, "face", 1, 0, 2, 2, 's');
        run.due(2, "panel", 600, 10, 's', 10);
        run.due(10, "face", 2, 0, 7, 2, 'r');
        run.due(3, "panel", 600, 10, 's', 10);
        run.due(Run.UNSUPPORTED, "face", 3, 0, 5, 3, 'b');
        run.due(Run.UNSUPPORTED, "face", 3, 0, 8, 3, 'b');
        run.due(6, "face", 3, 0, 9, 3, 'b');
        run.due(1, "jump", 0);
        run.due(6, "jump", 1);
        run.due(10, "jump", 2);
        run.due(6, "jump", 3);
        run.due(4, "panel", 600, 10, 's', 10);
        // 21, 20, 19, 18, 25, 24, 23, 22.
        run.due(13, "face", 4, 0, 12, 8, 'b');
        run.due(true, "isTrue");
    }

    private static void faceOrder() {
        Run run = flat("10 face, wrong calls");
        run.due(0, "panel", 300, 8, 's', 10);
        run.due(Run.INDEX, "face", 1, 0, 0, 2, 'b');
        run.due(Run.INDEX, "face", -1, 0, 0, 2, 'x');
        run.due(Run.INDEX, "face", 0, 1, 0, 2, 'b');
        run.due(Run.INDEX, "face", 0, -1, 0, 2, 'b');
        run.due(Run.INDEX, "face", 0, 0, -1, 2, 'b');
        run.due(Run.INDEX, "face", 0, 0, 24, 1, 'b');
        run.due(Run.INDEX, "face", 0, 0, 23, 2, 'b');
        run.due(Run.INDEX, "face", 0, 0, 24, 0, 'b');
        run.due(Run.INDEX, "face", 0, 0, 20, 9, 'x');
        run.due(Run.INDEX, "face", 0, 0, 1, Integer.MAX_VALUE, 'b');
        run.due(Run.INDEX, "face", 0, 0, Integer.MAX_VALUE, 8, 'b');
        run.due(Run.INDEX, "face", 0, 0, Integer.MIN_VALUE, Integer.MIN_VALUE, 'b');
        run.due(Run.ARGUMENT, "face", 0, 0, 0, 1, 'x');
        run.due(Run.ARGUMENT, "face", 0, 0, 0, 1, 'f');
        run.due(Run.ARGUMENT, "face", 0, 0, 0, 0, 'b');
        run.due(Run.ARGUMENT, "face", 0, 0, 0, -1, 'b');
        run.due(Run.ARGUMENT, "face", 0, 0, 0, Integer.MIN_VALUE, 'b');
        run.due(Run.ARGUMENT, "face", 0, 0, 0, 9, 'b');
        run.due(0, "face", 0, 0, 23, 1, 'b');
        run.due(Run.UNSUPPORTED, "face", 0, 0, 0, 1, 'b');
        run.due(Run.ARGUMENT, "face", 0, 0, 23, 1, 'x');
        run.due(Run.ARGUMENT, "face", 0, 0, 23, 0, 'b');
        run.due(Run.INDEX, "face", 0, 0, 24, 1, 'b');
    }

    /** What is left beside each strip is an offcut from 50 on. */
    private static void faceRest() {
        Run run = flat("10 face, its rest");
        run.due(0, "panel", 592, 8, 's', 10);
        run.due(1, "face", 0, 0, 0, 2, 'b');
        run.due(2, "offcuts", 50);
        run.due(800, "account", 'o');
        run.due(6920 - 4736 - 800, "account", 'w');
        run.due(1, "panel", 598, 10, 's', 10);
        // Strips of 299: 348 leave 49 each.
        run.due(1, "face", 1, 0, 2, 2, 'b');
        run.due(0, "offcuts", 49);
        run.due(800, "account", 'o');
        run.due(1384 + 6960 - 5980, "account", 'w');
        run.due(10716, "account", 'f');
        run.due(2, "panel", 604, 9, 's', 10);
        // Strips of 302: 350 and 352 leave 48 and 50.
        run.due(1, "face", 2, 0, 5, 2, 'b');
        run.due(3, "offcuts", 50);
        run.due(1250, "account", 'o');
        run.due(2364 + 7020 - 5436 - 450, "account", 'w');
        run.due(true, "isTrue");
    }

    private static void stripsAndHeights() {
        Run run = flat("10 face, strips and heights");
        run.due(0, "panel", 692, 10, 's', 10);
        run.due(1, "panel", 693, 10, 's', 10);
        run.due(Run.UNSUPPORTED, "face", 1, 0, 0, 2, 'b');
        run.due(Run.UNSUPPORTED, "back", 1, 0, 0, 2);
        run.due(1, "face", 0, 0, 0, 2, 'b');
        run.due(0, "account", 'w');
        run.due(2, "panel", 601, 11, 's', 10);
        run.due(Run.UNSUPPORTED, "face", 2, 0, 4, 2, 'b');
        run.due(Run.UNSUPPORTED, "back", 2, 0, 4, 2);
        run.due(Run.UNSUPPORTED, "face", 2, 0, 4, 8, 'b');
        // Strips of 350: the leaf 3 is too narrow, those behind it are not.
        run.due(3, "panel", 1048, 10, 's', 10);
        run.due(Run.UNSUPPORTED, "face", 3, 0, 3, 3, 'b');
        run.due(6, "face", 3, 0, 4, 3, 'b');
        run.due(350 * 10 * 2 + 3520 - 10480, "account", 'w');
        run.due(true, "isTrue");
    }

    private static void backs() {
        Run run = flat("11 back");
        run.due(0, "panel", 601, 8, 's', 10);
        // The strips are 301; 45 beside each, and what is above the height, are waste.
        run.due(6920 - 4808, "back", 0, 0, 0, 2);
        run.due(4808, "account", 'b');
        run.due(0, "account", 'f');
        run.due(2112, "account", 'w');
        run.due(true, "isUsed", 0, 0);
        run.due(true, "isUsed", 0, 1);
        run.due(false, "isUsed", 0, 2);
        run.due(Run.UNSUPPORTED, "back", 0, 0, 2, 2);
        run.due(1, "face", 0, 0, 2, 2, 'b');
        run.due(1, "panel", 200, 5, 'c', 10);
        // 350 by 10: a strip of 200 by 5, an offcut of 150 by 5, and the rest.
        run.due(1750, "back", 1, 0, 4, 1);
        run.due(750, "account", 'o');
        run.due(1, "offcuts", 150);
        run.due(4808 + 1000, "account", 'b');
        run.due(2, "panel", 203, 10, 'c', 10);
        // Strips of 26 from 8 leaves: the 8 are 5 wider than the panel, and that is waste.
        run.due((8 * 26 - 203) * 10, "back", 2, 0, 5, 8);
        run.due(3, "panel", 100, 10, 'c', 10);
        run.due(Run.UNSUPPORTED, "back", 3, 0, 12, 1);
        run.due(0, "back", 3, 0, 13, 1);
        run.due(true, "isTrue");
    }

    private static void backOrder() {
        Run run = flat("11 back, wrong calls");
        run.due(0, "panel", 200, 5, 's', 10);
        run.due(0, "face", 0, 0, 4, 1, 's');
        run.due(0, "press", 0, 0, 99, 0);
        run.due(Run.UNSUPPORTED, "back", 0, 0, 5, 1);
        run.due(1, "panel", 200, 5, 's', 10);
        run.due(Run.INDEX, "back", 2, 0, 0, 1);
        run.due(Run.INDEX, "back", -1, 0, 0, 0);
        run.due(Run.INDEX, "back", 1, 1, 0, 1);
        run.due(Run.INDEX, "back", 1, 0, -1, 1);
        run.due(Run.INDEX, "back", 1, 0, 24, 1);
        run.due(Run.INDEX, "back", 1, 0, 23, 2);
        run.due(Run.INDEX, "back", 0, 0, 17, 8);
        run.due(Run.INDEX, "back", 1, 0, 20, 9);
        run.due(Run.INDEX, "back", 1, 0, 1, Integer.MAX_VALUE);
        run.due(Run.ARGUMENT, "back", 0, 0, 4, 0);
        run.due(Run.ARGUMENT, "back", 1, 0, 4, 9);
        run.due(Run.ARGUMENT, "back", 1, 0, 4, -3);
        run.due(Run.UNSUPPORTED, "back", 1, 0, 4, 1);
        run.due(Run.UNSUPPORTED, "back", 1, 0, 3, 2);
        run.due(2 * 3480 - 1000 - 2 * 248 * 5, "back", 1, 0, 2, 2);
        run.due(true, "isTrue");
    }

    private static void jumps() {
        Run run = flat("12 jump");
        run.due(0, "panel", 600, 8, 's', 10);
        run.due(Run.INDEX, "jump", 1);
        run.due(Run.INDEX, "jump", -1);
        run.due(Run.NONE, "jump", 0);
        run.answer("back", 0, 0, 0, 2);
        run.due(Run.NONE, "jump", 0);
        for (int panel = 1; panel < 8; panel++) {
            run.due(panel, "panel", 100, 8, 's', 10);
        }
        run.due(0, "face", 1, 0, 2, 1, 's');
        run.due(0, "face", 2, 0, 3, 1, 'b');
        // 21, 20, 19, 18, 25: 10, and 4 pairs of 5.
        run.due(30, "face", 3, 0, 4, 5, 's');
        run.due(2 + 4, "face", 4, 0, 9, 3, 'b');
        run.due(2 + 6, "face", 5, 0, 12, 3, 'r');
        run.due(7, "face", 6, 0, 15, 2, 'b');
        run.due(0, "jump", 1);
        run.due(0, "jump", 2);
        run.due(30, "jump", 3);
        run.due(6, "jump", 4);
        run.due(8, "jump", 5);
    }

    private static void bestFirst() {
        Run run = flat("13 bestFirst");
        run.due(1, "log", 'm', 300, 12, 'c');
        run.due(1, "slice", 1, 'q', 20);
        run.due(0, "panel", 200, 8, 's', 10);
        // Figures of the maple: 44, 45, 45, 46, 46 .. 49, 50, 50, 50, 49, 49 .. 45; 130 wide.
        run.due(Run.NONE, "bestFirst", 0, 1, 1, 'b');
        run.due(1, "bestFirst", 0, 1, 2, 'b');
        run.due(11, "bestFirst", 0, 1, 3, 's');
        run.due(1, "bestFirst", 0, 1, 4, 'r');
        run.due(0, "bestFirst", 0, 0, 2, 'b');
        run.due(1, "panel", 700, 8, 's', 10);
        run.due(4, "bestFirst", 1, 0, 2, 'b');
        run.due(Run.NONE, "bestFirst", 1, 1, 2, 'b');
        run.due(2, "panel", 200, 11, 's', 10);
        run.due(Run.NONE, "bestFirst", 2, 0, 2, 'b');
        run.due(1, "bestFirst", 2, 1, 2, 'b');
        run.due(3, "panel", 200, 12, 's', 10);
        run.due(4, "face", 3, 1, 11, 3, 'b');
        run.due(2 * 130 * 12 - 2400, "back", 3, 1, 1, 2);
        // The face that it has aside, but not the leaves that were used.
        run.due(3, "bestFirst", 3, 1, 2, 'b');
        run.due(3, "bestFirst", 3, 1, 3, 'b');
        run.due(3, "bestFirst", 3, 1, 8, 'b');
        run.due(0, "press", 3, 0, 99, 0);
        run.due(3, "bestFirst", 3, 1, 2, 'b');
    }

    private static void bestFirstOrder() {
        Run run = flat("13 bestFirst, wrong calls");
        run.due(0, "panel", 200, 8, 's', 10);
        run.due(Run.INDEX, "bestFirst", 1, 0, 2, 'b');
        run.due(Run.INDEX, "bestFirst", -1, 0, 0, 'x');
        run.due(Run.INDEX, "bestFirst", 0, 1, 2, 'b');
        run.due(Run.INDEX, "bestFirst", 0, -1, 2, 'b');
        run.due(Run.ARGUMENT, "bestFirst", 0, 0, 2, 'x');
        run.due(Run.ARGUMENT, "bestFirst", 0, 0, 0, 'b');
        run.due(Run.ARGUMENT, "bestFirst", 0, 0, 9, 'b');
        run.due(Run.ARGUMENT, "bestFirst", 0, 0, Integer.MAX_VALUE, 'b');
        run.due(Run.ARGUMENT, "bestFirst", 0, 0, Integer.MIN_VALUE, 'b');
        run.due(1, "log", 'w', 100, 10, 'p');
        run.due(1, "slice", 1, 'f', 30);
        run.due(1, "panel", 104, 10, 's', 10);
        // 9 leaves: 86 wide the first, and 98 the last.
        run.due(0, "bestFirst", 1, 1, 8, 's');
        run.due(0, "bestFirst", 1, 1, 8, 'b');
        run.due(Run.NONE, "bestFirst", 1, 1, 1, 'b');
        run.due(0, "bestFirst", 1, 1, 2, 'b');
        // Only the last three leaves, 98 wide, hold strips of 98.
        run.due(2, "panel", 294, 10, 's', 10);
        run.due(96, "width", 1, 5);
        run.due(98, "width", 1, 6);
        run.due(6, "bestFirst", 2, 1, 3, 'b');
        run.due(Run.NONE, "bestFirst", 2, 1, 2, 'b');
    }
}
