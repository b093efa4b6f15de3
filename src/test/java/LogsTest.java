/** Promises 1 to 8: a new loft, logs, flitches and their leaves. */
public final class LogsTest {
    public static void main(String[] args) {
        newLoft();
        logs();
        slices();
        leaves();
        flatWidths();
        otherWidths();
        figures();
        used();
        sweep();
        Run.end("LogsTest");
    }

    private static void newLoft() {
        Run run = new Run("1 a new loft");
        run.due(Run.INDEX, "slice", 0, 'f', 10);
        run.due(Run.INDEX, "leaves", 0);
        run.due(Run.INDEX, "price", 0);
        run.due(Run.INDEX, "pieces", 0);
        run.due(0, "offcuts", 100);
        run.due(0, "rest");
        for (char kind : "fbporwl".toCharArray()) {
            run.due(0, "account", kind);
        }
        run.due(Run.ARITHMETIC, "usedShare");
        run.due(Run.ARITHMETIC, "meanFigure");
        run.due(7 * 31, "checksum");
        run.due(true, "isTrue");
        run.due(8, "air", 8);
    }

    private static void logs() {
        Run run = new Run("2 log");
        run.due(Run.ARGUMENT, "log", 'x', 400, 10, 'p');
        run.due(Run.ARGUMENT, "log", 'W', 400, 10, 'p');
        run.due(Run.ARGUMENT, "log", (char) 0, 400, 10, 'p');
        run.due(Run.ARGUMENT, "log", (char) 65535, 400, 10, 'p');
        run.due(Run.ARGUMENT, "log", 'w', 400, 10, 'w');
        run.due(Run.ARGUMENT, "log", 'w', 400, 10, 's');
        run.due(Run.ARGUMENT, "log", 'w', 99, 10, 'p');
        run.due(Run.ARGUMENT, "log", 'w', 1000, 10, 'p');
        run.due(Run.ARGUMENT, "log", 'w', Integer.MIN_VALUE, 10, 'p');
        run.due(Run.ARGUMENT, "log", 'w', Integer.MAX_VALUE, 10, 'p');
        run.due(Run.ARGUMENT, "log", 'w', 400, 0, 'p');
        run.due(Run.ARGUMENT, "log", 'w', 400, 41, 'p');
        run.due(0, "log", 'w', 100, 1, 'p');
        run.due(1, "log", 'm', 999, 40, 'c');
        run.due(2, "log", 'o', 500, 20, 'b');
        run.due(3, "log", 'h', 500, 20, 'b');
        for (int number = 4; number < 8; number++) {
            run.due(number, "log", 'h', 200, 5, 'p');
        }
        run.due(Run.STATE, "log", 'h', 200, 5, 'p');
        run.due(Run.ARGUMENT, "log", 'h', 200, 5, 'q');
        run.due(Run.ARGUMENT, "log", 'h', 99, 5, 'p');
    }

    private static void slices() {
        Run run = new Run("3 slice");
        run.due(0, "log", 'w', 400, 10, 'p');
        run.due(1, "log", 'o', 400, 10, 'p');
        run.due(Run.INDEX, "slice", -1, 'f', 10);
        run.due(Run.INDEX, "slice", 2, 'f', 10);
        run.due(Run.INDEX, "slice", 2, 'x', 10);
        run.due(Run.INDEX, "slice", Integer.MAX_VALUE, 'f', 0);
        run.due(Run.ARGUMENT, "slice", 0, 'p', 10);
        run.due(Run.ARGUMENT, "slice", 0, 'F', 10);
        run.due(Run.ARGUMENT, "slice", 0, 'f', 4);
        run.due(Run.ARGUMENT, "slice", 0, 'f', 31);
        run.due(Run.ARGUMENT, "slice", 0, 'f', 0);
        run.due(Run.INDEX, "leaves", 0);
        run.due(0, "slice", 1, 'q', 5);
        run.due(Run.UNSUPPORTED, "slice", 1, 'q', 5);
        run.due(Run.UNSUPPORTED, "slice", 1, 'r', 30);
        run.due(Run.ARGUMENT, "slice", 1, 'q', 4);
        run.due(Run.ARGUMENT, "slice", 1, 'z', 5);
        run.due(1, "slice", 0, 's', 30);
        // The numbers are those of the flitches, not of the logs: 34 is a quarter of oak.
        run.due(10 + 30 - 6, "figure", 0, 0);
        run.due(10 + 20, "figure", 1, 0);
        run.due(Run.INDEX, "leaves", 2);
    }

    private static void leaves() {
        Run run = new Run("4 leaves");
        run.due(0, "log", 'w', 103, 10, 'p');
        run.due(0, "slice", 0, 'f', 17);
        // Half of 51 is cut to 25 first: 250 by 17 is 14, and 1.
        run.due(15, "leaves", 0);
        run.due(1, "log", 'w', 100, 10, 'p');
        run.due(1, "slice", 1, 'f', 30);
        run.due(9, "leaves", 1);
        run.due(2, "log", 'w', 101, 10, 'p');
        run.due(2, "slice", 2, 'q', 30);
        run.due(16, "leaves", 2);
        run.due(3, "log", 'w', 101, 10, 'p');
        run.due(3, "slice", 3, 'r', 21);
        run.due(23, "leaves", 3);
        run.due(4, "log", 'w', 101, 10, 'p');
        run.due(4, "slice", 4, 's', 20);
        run.due(24, "leaves", 4);
        run.due(5, "log", 'w', 999, 10, 'p');
        run.due(5, "slice", 5, 'f', 5);
        run.due(24, "leaves", 5);
        run.due(0, "panel", 100, 10, 's', 10);
        run.due(3, "face", 0, 0, 0, 4, 'b');
        run.due(15, "leaves", 0);
        run.due(Run.INDEX, "leaves", -1);
        run.due(Run.INDEX, "leaves", 6);
    }

    private static void flatWidths() {
        Run run = new Run("5, 6 flat widths and areas");
        run.due(0, "log", 'w', 401, 7, 'p');
        run.due(0, "slice", 0, 'f', 15);
        run.due(346, "width", 0, 0);
        // The product 1.5 is cut to 1: 40000 less 99 by 99 is 30199, its root 173.
        run.due(346, "width", 0, 1);
        // 3 leaves are 4.5, cut to 4: 40000 less 9216 is 30784, its root 175.
        run.due(350, "width", 0, 3);
        run.due(350 * 7, "area", 0, 3);
        // 23 are 34: 40000 less 4356 is 35644, its root 188.
        run.due(376, "width", 0, 23);
        run.due(376 * 7, "area", 0, 23);
        for (String method : new String[] {"width", "area", "figure", "isUsed"}) {
            run.due(Run.INDEX, method, 0, 24);
            run.due(Run.INDEX, method, 0, -1);
            run.due(Run.INDEX, method, 0, Integer.MAX_VALUE);
            run.due(Run.INDEX, method, 0, Integer.MIN_VALUE);
            run.due(Run.INDEX, method, 1, 0);
            run.due(Run.INDEX, method, -1, 0);
        }
        run.due(1, "log", 'w', 100, 40, 'p');
        run.due(1, "slice", 1, 'f', 30);
        // The last leaf is 8, its product 24, its distance 1: the root of 2499 is 49.
        run.due(98, "width", 1, 8);
        run.due(98 * 40, "area", 1, 8);
        run.due(Run.INDEX, "width", 1, 9);
    }

    private static void otherWidths() {
        Run run = new Run("5, 6 other widths and areas");
        run.due(0, "log", 'w', 333, 3, 'p');
        run.due(0, "slice", 0, 'q', 15);
        run.due(146, "width", 0, 0);
        run.due(146, "width", 0, 23);
        run.due(438, "area", 0, 23);
        run.due(1, "log", 'w', 333, 3, 'p');
        run.due(1, "slice", 1, 'r', 15);
        run.due(116, "width", 1, 0);
        run.due(116, "width", 1, 7);
        run.due(348, "area", 1, 7);
        run.due(2, "log", 'w', 333, 3, 'p');
        run.due(2, "slice", 2, 's', 15);
        run.due(999, "width", 2, 0);
        // The product 1.5 is cut before it is taken 6 times.
        run.due(993, "width", 2, 1);
        run.due(981, "width", 2, 2);
        run.due(795, "width", 2, 23);
        run.due(2385, "area", 2, 23);
    }

    private static void figures() {
        Run run = new Run("7 figure");
        run.due(0, "log", 'w', 400, 10, 'p');
        run.due(0, "slice", 0, 'f', 10);
        run.due(25, "figure", 0, 0);
        run.due(18, "figure", 0, 7);
        run.due(25, "figure", 0, 8);
        run.due(18, "figure", 0, 23);
        run.due(1, "log", 'o', 400, 10, 'c');
        run.due(1, "slice", 1, 'q', 10);
        run.due(64, "figure", 1, 0);
        run.due(65, "figure", 1, 1);
        run.due(70, "figure", 1, 11);
        run.due(70, "figure", 1, 12);
        run.due(70, "figure", 1, 13);
        run.due(69, "figure", 1, 14);
        run.due(65, "figure", 1, 23);
        run.due(2, "log", 'o', 400, 10, 'b');
        run.due(2, "slice", 2, 's', 10);
        run.due(99, "figure", 2, 0);
        run.due(99, "figure", 2, 23);
        run.due(3, "log", 'o', 400, 10, 'p');
        run.due(3, "slice", 3, 's', 10);
        run.due(30, "figure", 3, 0);
        run.due(30, "figure", 3, 1);
        run.due(29, "figure", 3, 2);
        run.due(19, "figure", 3, 23);
        run.due(4, "log", 'h', 400, 10, 'b');
        run.due(4, "slice", 4, 'r', 10);
        run.due(65, "figure", 4, 0);
        run.due(65, "figure", 4, 23);
        run.due(5, "log", 'h', 400, 10, 'b');
        run.due(5, "slice", 5, 'q', 10);
        run.due(64, "figure", 5, 0);
        run.due(70, "figure", 5, 12);
        run.due(65, "figure", 5, 23);
        run.due(6, "log", 'h', 400, 10, 'b');
        run.due(6, "slice", 6, 'f', 10);
        run.due(75, "figure", 6, 0);
    }

    private static void used() {
        Run run = new Run("8 isUsed");
        run.due(0, "log", 'w', 400, 10, 'p');
        run.due(0, "slice", 0, 's', 10);
        run.due(0, "panel", 100, 10, 's', 10);
        run.due(0, "picture");
        run.due(false, "isUsed", 0, 2);
        run.due(1, "face", 0, 0, 1, 2, 'b');
        run.answer("back", 0, 0, 5, 1);
        run.answer("saw", 0, 0, 7, 2);
        String used = "";
        for (int leaf = 0; leaf < 24; leaf++) {
            used += run.answer("isUsed", 0, leaf).charAt(0);
        }
        Run.check("8 isUsed: " + used, used.equals("fttfftfttfffffffffffffff"));
    }

    /** All woods, forms and ways, with the words of the document written again in doubles. */
    private static void sweep() {
        int[] diameters = {100, 101, 103, 200, 333, 998, 999};
        int[] thicknesses = {5, 7, 10, 13, 29, 30};
        for (char wood : "wmoh".toCharArray()) {
            for (char form : "pcb".toCharArray()) {
                for (char way : "fqrs".toCharArray()) {
                    for (int diameter : diameters) {
                        for (int thickness : thicknesses) {
                            sweepOne(wood, form, way, diameter, thickness);
                        }
                    }
                }
            }
        }
    }

    private static void sweepOne(char wood, char form, char way, int diameter, int thickness) {
        VeneerLoft loft = new VeneerLoft();
        loft.log(wood, diameter, 9, form);
        loft.slice(0, way, thickness);
        double radius = Math.floor(diameter / 2.0);
        double half = Math.floor(radius / 2.0);
        double many = way == 'f' ? Math.floor(10 * half / thickness) + 1 : Math.floor(10 * radius / thickness);
        String name = "sweep " + wood + form + way + diameter + "/" + thickness;
        boolean right = loft.leaves(0) == (int) Math.min(24, many);
        for (int leaf = 0; leaf < loft.leaves(0); leaf++) {
            double depth = Math.floor(leaf * thickness / 10.0);
            double width = 2 * Math.floor(Math.sqrt(radius * radius - (half - depth) * (half - depth)));
            double figure = 15 - leaf % 8;
            if (way == 's') {
                width = 3 * diameter - 6 * depth;
                figure = 20 + (form == 'b' ? 30 : 0) - Math.floor(leaf / 2.0);
            } else if (way == 'q') {
                width = radius - 20;
                figure = (wood == 'o' ? 30 : 10) - Math.floor(Math.abs(leaf - 12) / 2.0);
            } else if (way == 'r') {
                width = Math.floor(0.8 * (radius - 20) + 0.0001);
                figure = 5;
            }
            figure += "p  c b".indexOf(form) * 10 + 10;
            right &= loft.width(0, leaf) == (int) width && loft.area(0, leaf) == 9 * (int) width;
            right &= loft.figure(0, leaf) == (int) Math.max(0, Math.min(99, figure)) && !loft.isUsed(0, leaf);
        }
        Run.check(name, right);
    }
}
