/**
 * The edges that "Logs", "Flitches" and "Figures" name, each at it and one step on either side of it: how
 * many leaves there are, what is cut, what begins anew, what is 99 at most, and what is used once.
 */
public final class LeafEdgesTest {
    public static void main(String[] args) {
        fullOfLogs();
        slicedOnce();
        mostLeaves();
        radiusAndHalf();
        flatRoots();
        fourFifths();
        products();
        areas();
        flatFigures();
        quarterFigures();
        roundFigures();
        usedOnce();
        twoLofts();
        Run.end("LeafEdgesTest");
    }

    private static Run sliced(String name, char wood, int diameter, int length, char form, char way, int thickness) {
        Run run = new Run(name + " " + wood + diameter + "/" + length + form + way + thickness);
        run.due(0, "log", wood, diameter, length, form);
        run.due(0, "slice", 0, way, thickness);
        return run;
    }

    /** "At most 8 are numbered from 0". */
    private static void fullOfLogs() {
        Run run = new Run("at most 8 logs");
        for (int number = 0; number < 8; number++) {
            run.due(Run.INDEX, "slice", number, 'f', 10);
            run.due(number, "log", 'w', 100, 1, 'p');
        }
        run.due(Run.STATE, "log", 'w', 100, 1, 'p');
        run.due(Run.INDEX, "slice", 8, 'f', 10);
        for (int number = 7; number >= 0; number--) {
            run.due(7 - number, "slice", number, 'f', 10);
            run.due(Run.INDEX, "leaves", 8 - number);
        }
        // Logs that were sliced still count.
        run.due(Run.STATE, "log", 'w', 100, 1, 'p');
        for (int number = 0; number < 8; number++) {
            run.due(24, "leaves", number);
            run.due(Run.UNSUPPORTED, "slice", number, 'f', 10);
        }
    }

    /** "A log is sliced once." */
    private static void slicedOnce() {
        for (char way : "fqrs".toCharArray()) {
            Run run = sliced("sliced once", 'w', 400, 10, 'p', way, 10);
            for (char again : "fqrs".toCharArray()) {
                run.due(Run.UNSUPPORTED, "slice", 0, again, 10);
            }
            run.due(Run.INDEX, "leaves", 1);
            run.due(1, "log", 'w', 400, 10, 'p');
            run.due(1, "slice", 1, way, 10);
        }
    }

    /** "Its leaves are numbered from 0, 24 at most". */
    private static void mostLeaves() {
        int[][] flat = {
            {100, 30, 9}, {107, 30, 9}, {108, 30, 10}, {263, 30, 22}, {264, 30, 23}, {275, 30, 23}, {276, 30, 24},
            {287, 30, 24}, {288, 30, 24}, {300, 30, 24}, {999, 5, 24}, {999, 30, 24}, {100, 10, 24}, {100, 11, 23},
        };
        int[][] others = {
            {100, 30, 16}, {101, 30, 16}, {102, 30, 17}, {137, 30, 22}, {138, 30, 23}, {143, 30, 23}, {144, 30, 24},
            {149, 30, 24}, {150, 30, 24}, {999, 5, 24}, {100, 20, 24}, {100, 21, 23}, {100, 19, 24},
        };
        for (int[] row : flat) {
            oneCount('f', row);
        }
        for (int[] row : others) {
            oneCount('q', row);
            oneCount('r', row);
            oneCount('s', row);
        }
    }

    private static void oneCount(char way, int[] row) {
        Run run = sliced("leaves", 'o', row[0], 5, 'b', way, row[1]);
        run.due(row[2], "leaves", 0);
        for (String method : new String[] {"width", "area", "figure", "isUsed"}) {
            run.due(Run.INDEX, method, 0, -1);
            String last = run.answer(method, 0, row[2] - 1);
            Run.check("the last leaf answered " + last, !last.contains("throws"));
            run.due(Run.INDEX, method, 0, row[2]);
            run.due(Run.INDEX, method, 0, row[2] + 1);
        }
    }

    /** "The radius is half the diameter, cut"; "half the radius, that half being cut first". */
    private static void radiusAndHalf() {
        int[][] quarter = {{100, 30}, {101, 30}, {102, 31}, {103, 31}, {998, 479}, {999, 479}};
        for (int[] row : quarter) {
            sliced("radius", 'w', row[0], 1, 'p', 'q', 10).due(row[1], "width", 0, 0);
        }
        // The radius and its half are 50 and 25, 51 and 25, 52 and 26, 53 and 26.
        int[][] flat = {{100, 86}, {101, 86}, {102, 88}, {104, 90}, {106, 92}};
        for (int[] row : flat) {
            sliced("half the radius", 'w', row[0], 1, 'p', 'f', 10).due(row[1], "width", 0, 0);
        }
        // Of 53, half is 26: by 13 that is 20 leaves and 1; of 52 too; of 51 it is 25, 19 and 1; of 54, 27.
        int[][] counts = {{102, 20}, {103, 20}, {104, 21}, {107, 21}, {108, 21}, {112, 22}};
        for (int[] row : counts) {
            sliced("half the radius", 'w', row[0], 1, 'p', 'f', 13).due(row[1], "leaves", 0);
        }
    }

    /** "2 times the root, which is cut first, of the square of the radius less that of its distance". */
    private static void flatRoots() {
        // The radius is 50, its half 25: the distances of the leaf 10 are 15, 14 and 13, 14 has the root 48.
        sliced("a root", 'w', 100, 1, 'p', 'f', 10).due(94, "width", 0, 10);
        sliced("a root", 'w', 100, 1, 'p', 'f', 11).due(96, "width", 0, 10);
        sliced("a root", 'w', 100, 1, 'p', 'f', 12).due(96, "width", 0, 10);
        // The radius is 60, its half 30: the last leaf lies in the middle.
        Run run = sliced("the middle", 'w', 120, 1, 'p', 'f', 30);
        run.due(11, "leaves", 0);
        run.due(118, "width", 0, 9);
        run.due(120, "width", 0, 10);
        // The radius is 499, its half 249: 499 by 499 less 249 by 249 is 187000, its root 432.
        sliced("the widest", 'w', 999, 1, 'p', 'f', 30).due(864, "width", 0, 0);
    }

    /** "rift, four fifths of that, cut". */
    private static void fourFifths() {
        int[][] rows = {
            {138, 39}, {140, 40}, {142, 40}, {144, 41}, {146, 42}, {148, 43}, {150, 44}, {152, 44}, {100, 24},
        };
        for (int[] row : rows) {
            Run run = sliced("four fifths", 'w', row[0], 1, 'p', 'r', 30);
            run.due(row[1], "width", 0, 0);
            run.due(row[1], "width", 0, 15);
        }
    }

    /** "as many thicknesses as its number, in millimetres, each such product being cut". */
    private static void products() {
        // The thickness, the leaf and the product.
        int[][] rows = {
            {5, 0, 0}, {5, 1, 0}, {5, 2, 1}, {5, 3, 1}, {5, 4, 2}, {9, 1, 0}, {9, 2, 1}, {10, 1, 1}, {10, 2, 2},
            {11, 9, 9}, {11, 10, 11}, {11, 11, 12}, {29, 10, 29}, {30, 1, 3}, {30, 15, 45}, {7, 23, 16},
        };
        for (int[] row : rows) {
            Run run = sliced("round product", 'w', 101, 1, 'p', 's', row[0]);
            run.due(303 - 6 * row[2], "width", 0, row[1]);
        }
        // The radius 50 and the distances 25, 25, 24 and 24.
        Run run = sliced("flat product", 'w', 100, 1, 'p', 'f', 5);
        run.due(86, "width", 0, 0);
        run.due(86, "width", 0, 1);
        run.due(86, "width", 0, 2);
        run.due(86, "width", 0, 3);
        // The distance 23: 2500 less 529 is 1971, its root 44.
        run.due(88, "width", 0, 4);
        run.due(88, "width", 0, 5);
    }

    /** "Its area, in square centimetres, is the width times the length of the log." */
    private static void areas() {
        for (int length : new int[] {1, 2, 39, 40}) {
            sliced("area", 'w', 100, length, 'p', 'q', 10).due(30 * length, "area", 0, 5);
            sliced("area", 'w', 999, length, 'p', 's', 10).due(2997 * length, "area", 0, 0);
            sliced("area", 'w', 999, length, 'p', 's', 10).due(2991 * length, "area", 0, 1);
        }
    }

    /** "flat 15, less the rest of k by 8". */
    private static void flatFigures() {
        int[] plain = {25, 24, 23, 22, 21, 20, 19, 18};
        for (char wood : "wmoh".toCharArray()) {
            Run run = sliced("flat figure", wood, 400, 10, 'p', 'f', 10);
            for (int leaf = 0; leaf < 24; leaf++) {
                run.due(plain[leaf < 8 ? leaf : leaf < 16 ? leaf - 8 : leaf - 16], "figure", 0, leaf);
            }
        }
        Run crotch = sliced("flat figure", 'w', 400, 10, 'c', 'f', 10);
        crotch.due(48, "figure", 0, 7);
        crotch.due(55, "figure", 0, 8);
        crotch.due(54, "figure", 0, 9);
        Run burr = sliced("flat figure", 'w', 400, 10, 'b', 'f', 10);
        burr.due(68, "figure", 0, 15);
        burr.due(75, "figure", 0, 16);
        burr.due(74, "figure", 0, 17);
    }

    /** "quarter 30 for oak, 10 for others, less half, cut, of the amount by which k is away from 12". */
    private static void quarterFigures() {
        int[] less = {6, 5, 5, 4, 4, 3, 3, 2, 2, 1, 1, 0, 0, 0, 1, 1, 2, 2, 3, 3, 4, 4, 5, 5};
        String woods = "wmoh";
        int[] wayOf = {10, 10, 30, 10};
        String forms = "pcb";
        int[] formOf = {10, 40, 60};
        for (int wood = 0; wood < 4; wood++) {
            for (int form = 0; form < 3; form++) {
                Run run = sliced("quarter figure", woods.charAt(wood), 400, 10, forms.charAt(form), 'q', 10);
                for (int leaf = 0; leaf < 24; leaf++) {
                    run.due(formOf[form] + wayOf[wood] - less[leaf], "figure", 0, leaf);
                }
            }
        }
    }

    /** "round 20, and 30 more for a burr, less half of k, cut. It is 0 at least, 99 at most." */
    private static void roundFigures() {
        Run plain = sliced("round figure", 'w', 400, 10, 'p', 's', 10);
        Run crotch = sliced("round figure", 'm', 400, 10, 'c', 's', 10);
        Run burr = sliced("round figure", 'h', 400, 10, 'b', 's', 10);
        Run rift = sliced("rift figure", 'o', 400, 10, 'b', 'r', 10);
        int[] less = {0, 0, 1, 1, 2, 2, 3, 3, 4, 4, 5, 5, 6, 6, 7, 7, 8, 8, 9, 9, 10, 10, 11, 11};
        for (int leaf = 0; leaf < 24; leaf++) {
            plain.due(30 - less[leaf], "figure", 0, leaf);
            crotch.due(60 - less[leaf], "figure", 0, leaf);
            // 110 and less: 100 at the leaves 20 and 21, and 99 at 22 and 23.
            burr.due(99, "figure", 0, leaf);
            rift.due(65, "figure", 0, leaf);
        }
    }

    /** "A leaf is used once": whatever used it, whatever asks for it, and wherever it lies among the leaves. */
    private static void usedOnce() {
        String[] methods = {"face", "back", "saw"};
        for (String used : methods) {
            for (String asked : methods) {
                for (int first = 7; first <= 13; first++) {
                    Run run = sliced("used by " + used + ", asked by " + asked, 'w', 400, 10, 'p', 'r', 10);
                    run.due(0, "panel", 100, 10, 's', 10);
                    run.due(1, "panel", 100, 10, 's', 10);
                    run.due(0, "picture");
                    run.due(1, "picture");
                    run.due(due(used, true), used, arguments(used, 0, 10));
                    run.due(due(asked, first == 7 || first == 13), asked, arguments(asked, 1, first));
                    for (int leaf = 0; leaf < 24; leaf++) {
                        boolean second = (first == 7 || first == 13) && leaf >= first && leaf < first + 3;
                        run.due(second || leaf >= 10 && leaf < 13, "isUsed", 0, leaf);
                    }
                    run.due(true, "isTrue");
                }
            }
        }
    }

    private static Object[] arguments(String method, int on, int first) {
        return method.equals("face") ? new Object[] {on, 0, first, 3, 'b'} : new Object[] {on, 0, first, 3};
    }

    /** The leaves are 144 wide; of three, strips of 34 and offcuts of 110 are cut, or copies of 64. */
    private static Object due(String method, boolean free) {
        if (!free) {
            return Run.UNSUPPORTED;
        }
        int area = 3 * 1440;
        return method.equals("face") ? 4 : method.equals("back") ? area - 1000 - 3 * 1100 : area - 3 * 64;
    }

    /** "Creates a loft without logs, panels and pictures": nothing is shared with another one. */
    private static void twoLofts() {
        Run one = sliced("one loft", 'w', 400, 10, 'p', 'q', 10);
        Run other = new Run("another loft");
        one.due(0, "panel", 100, 10, 's', 10);
        one.due(0, "picture");
        one.due(0, "face", 0, 0, 0, 1, 'b');
        one.due(8, "air", 20);
        other.due(Run.INDEX, "leaves", 0);
        other.due(Run.INDEX, "price", 0);
        other.due(Run.INDEX, "pieces", 0);
        other.due(0, "offcuts", 80);
        other.due(Run.ARITHMETIC, "usedShare");
        other.due(8, "air", 9);
        other.due(217, "checksum");
        one.due(20, "air", 8);
        one.due(1, "offcuts", 80);
    }
}
