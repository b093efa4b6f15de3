/** Promises 14 to 24: the press, blisters, air and cups, scrapers and pads. */
public final class GlueTest {
    public static void main(String[] args) {
        presses();
        pressEdges();
        slits();
        airs();
        cups();
        cupParts();
        cupOfBoth();
        flats();
        months();
        monthOrder();
        scrapes();
        scrapeEdges();
        pads();
        mostShine();
        rests();
        Run.end("GlueTest");
    }

    /** A round flitch of 24 leaves, 1200 wide and less, 20 long, with the figures 30, 30, 29, 29 .. */
    private static Run round(String name, char wood, int thickness) {
        Run run = new Run(name);
        run.due(0, "log", wood, 400, 20, 'p');
        run.due(0, "slice", 0, 's', thickness);
        return run;
    }

    /** A panel with a face of one leaf, pressed without a blister at an air. */
    private static Run pressed(String name, char wood, int thickness, char core, int coreThickness, int air) {
        Run run = round(name, wood, thickness);
        run.due(0, "panel", 800, 2, core, coreThickness);
        run.due(0, "face", 0, 0, 0, 1, 'b');
        run.due(8, "air", air);
        run.due(0, "press", 0, 60, 99, 0);
        return run;
    }

    private static void presses() {
        Run run = round("14 press", 'w', 10);
        run.due(0, "panel", 800, 2, 's', 10);
        run.due(Run.INDEX, "press", 1, 10, 5, 8);
        run.due(Run.INDEX, "press", -1, 61, 5, 8);
        run.due(Run.ARGUMENT, "press", 0, -1, 5, 8);
        run.due(Run.ARGUMENT, "press", 0, 61, 5, 8);
        run.due(Run.ARGUMENT, "press", 0, 10, 0, 8);
        run.due(Run.ARGUMENT, "press", 0, 10, 100, 8);
        run.due(Run.ARGUMENT, "press", 0, 10, 5, -1);
        run.due(Run.ARGUMENT, "press", 0, 10, 5, 61);
        run.due(Run.UNSUPPORTED, "press", 0, 10, 5, 8);
        run.answer("back", 0, 0, 5, 1);
        run.due(Run.UNSUPPORTED, "press", 0, 10, 5, 8);
        run.due(5, "face", 0, 0, 0, 2, 's');
        run.due(6, "press", 0, 10, 5, 8);
        run.due(Run.UNSUPPORTED, "press", 0, 10, 5, 8);
        run.due(Run.ARGUMENT, "press", 0, 10, 0, 8);
    }

    private static void pressEdges() {
        // Core, warmth, minutes, waiting, and the blisters of each leaf.
        int[][] rows = {
            {10, 0, 22, 4, 0}, {10, 0, 21, 4, 1}, {10, 0, 22, 5, 2}, {10, 0, 21, 5, 3},
            {11, 11, 19, 7, 0}, {11, 11, 18, 7, 1}, {11, 11, 19, 8, 2}, {11, 11, 18, 8, 3},
            {12, 12, 19, 8, 0}, {12, 12, 18, 8, 1}, {12, 12, 19, 9, 2},
            {40, 0, 30, 0, 0}, {40, 0, 29, 0, 1}, {5, 60, 1, 0, 0}, {7, 60, 1, 24, 0},
            {8, 60, 1, 24, 1}, {8, 60, 2, 24, 0}, {8, 60, 2, 25, 2}, {40, 60, 99, 60, 2},
        };
        for (int[] row : rows) {
            for (int many = 1; many <= 8; many++) {
                Run run = round("14 press, " + java.util.Arrays.toString(row), 'w', 10);
                run.due(0, "panel", 800, 2, 'c', row[0]);
                run.answer("face", 0, 0, 3, many, 'b');
                run.due(row[4] * many, "press", 0, row[1], row[2], row[3]);
            }
        }
    }

    private static void slits() {
        Run run = round("15 slit", 'w', 10);
        run.due(Run.INDEX, "slit", 0);
        run.due(0, "panel", 800, 2, 's', 10);
        run.due(Run.NONE, "slit", 0);
        run.due(0, "face", 0, 0, 0, 1, 'b');
        run.due(Run.NONE, "slit", 0);
        run.due(3, "press", 0, 0, 1, 60);
        int price = Integer.parseInt(run.answer("price", 0));
        run.due(2, "slit", 0);
        run.due(price + 3, "price", 0);
        run.due(1, "slit", 0);
        run.due(0, "slit", 0);
        run.due(price + 9, "price", 0);
        run.due(Run.NONE, "slit", 0);
        run.due(Run.INDEX, "slit", 1);
        run.due(Run.INDEX, "slit", -1);
    }

    private static void airs() {
        Run run = new Run("16 air");
        run.due(Run.ARGUMENT, "air", 3);
        run.due(Run.ARGUMENT, "air", 21);
        run.due(Run.ARGUMENT, "air", Integer.MIN_VALUE);
        run.due(Run.ARGUMENT, "air", Integer.MAX_VALUE);
        run.due(8, "air", 4);
        run.due(4, "air", 20);
        run.due(20, "air", 20);
        run.due(20, "air", 11);
    }

    private static void cups() {
        Run run = pressed("17 cup", 'w', 10, 's', 10, 12);
        run.due(0, "cup", 0, 12);
        run.due(60, "cup", 0, 13);
        run.due(-60, "cup", 0, 11);
        run.due(-480, "cup", 0, 4);
        run.due(480, "cup", 0, 20);
        run.due(12, "air", 4);
        run.due(60, "cup", 0, 13);
        run.due(Run.ARGUMENT, "cup", 0, 3);
        run.due(Run.ARGUMENT, "cup", 0, 21);
        run.due(Run.INDEX, "cup", 1, 3);
        run.due(Run.INDEX, "cup", -1, 8);
        run.due(1, "panel", 800, 2, 's', 10);
        run.due(Run.UNSUPPORTED, "cup", 1, 8);
        run.due(Run.ARGUMENT, "cup", 1, 3);
        run.answer("face", 1, 0, 5, 1, 'b');
        run.due(Run.UNSUPPORTED, "cup", 1, 8);
    }

    private static void cupParts() {
        pressed("17 cup of walnut", 'w', 10, 's', 10, 8).due(60, "cup", 0, 9);
        pressed("17 cup of maple", 'm', 10, 's', 10, 8).due(80, "cup", 0, 9);
        pressed("17 cup of oak", 'o', 10, 's', 10, 8).due(90, "cup", 0, 9);
        pressed("17 cup of mahogany", 'h', 10, 's', 10, 8).due(40, "cup", 0, 9);
        pressed("17 cup, crossed", 'w', 10, 'c', 10, 8).due(20, "cup", 0, 9);
        pressed("17 cup, board", 'w', 10, 'b', 10, 8).due(30, "cup", 0, 9);
        pressed("17 cup, thick leaves", 'w', 30, 's', 10, 8).due(180, "cup", 0, 9);
        // 420 by 11 is 38.2, by 33 it is 12.7, by 22 it is 19.1.
        Run run = pressed("17 cup, cut", 'w', 7, 's', 11, 8);
        run.due(38, "cup", 0, 9);
        run.due(-38, "cup", 0, 7);
        run = pressed("17 cup, crossed and cut", 'w', 7, 'c', 11, 8);
        run.due(12, "cup", 0, 9);
        run.due(-12, "cup", 0, 7);
        run = pressed("17 cup, board and cut", 'w', 7, 'b', 11, 8);
        run.due(19, "cup", 0, 9);
        run.due(-19, "cup", 0, 7);
    }

    private static void cupOfBoth() {
        Run run = round("17 cup of a face and a back", 'o', 10);
        run.due(1, "log", 'm', 400, 20, 'p');
        run.due(1, "slice", 1, 'f', 5);
        run.due(0, "panel", 300, 2, 's', 10);
        run.due(1, "panel", 300, 2, 's', 7);
        run.due(0, "face", 0, 0, 0, 1, 'b');
        run.answer("back", 0, 1, 0, 1);
        run.answer("back", 1, 0, 1, 1);
        run.due(0, "face", 1, 1, 1, 1, 'b');
        run.due(0, "press", 0, 60, 99, 0);
        run.due(0, "press", 1, 60, 99, 0);
        run.due(50, "cup", 0, 9);
        run.due(-50, "cup", 0, 7);
        run.due(600, "cup", 0, 20);
        // 500 by 7 is 71.4.
        run.due(-71, "cup", 1, 9);
        run.due(71, "cup", 1, 7);
        run.due(0, "cup", 1, 8);
    }

    private static void flats() {
        // 200 for each step of the air: by 51 it is 3.9, by 48 it is 4.2.
        Run run = pressed("18 isFlat", 'h', 5, 'c', 17, 8);
        run.due(true, "isFlat", 0);
        run.due(8, "air", 9);
        run.due(true, "isFlat", 0);
        run.due(9, "air", 7);
        run.due(true, "isFlat", 0);
        run.due(7, "air", 10);
        run.due(false, "isFlat", 0);
        run.due(10, "air", 6);
        run.due(false, "isFlat", 0);
        run.due(Run.INDEX, "isFlat", 1);
        run.due(Run.INDEX, "isFlat", -1);
        run.due(1, "panel", 800, 2, 'c', 10);
        run.due(Run.UNSUPPORTED, "isFlat", 1);
        run.answer("face", 1, 0, 1, 1, 's');
        run.due(Run.UNSUPPORTED, "isFlat", 1);
        run = pressed("18 isFlat, 4", 'h', 5, 'c', 16, 8);
        run.due(8, "air", 9);
        run.due(4, "cup", 0, 9);
        run.due(false, "isFlat", 0);
        run.due(9, "air", 7);
        run.due(false, "isFlat", 0);
        run.due(7, "air", 8);
        run.due(true, "isFlat", 0);
    }

    /** Pressed at one air, it is flat within 2 of that: 200 for each step, by 120. */
    private static void months() {
        // The air at the press, that of now, and the month.
        int[][] rows = {
            {8, 8, 0}, {8, 9, 5}, {8, 7, 0}, {8, 10, 4}, {8, 11, 3}, {8, 12, 3}, {8, 13, 2}, {8, 14, 0},
            {5, 4, 6}, {4, 4, 5}, {6, 4, -1}, {7, 4, 0}, {18, 20, -1}, {19, 20, -1}, {17, 20, 3},
            {17, 19, 4}, {20, 20, 0}, {18, 19, -1}, {18, 18, 0}, {6, 5, 6}, {6, 6, 5},
        };
        for (int[] row : rows) {
            Run run = pressed("19 cupMonth, " + java.util.Arrays.toString(row), 'h', 5, 'c', 40, row[0]);
            run.due(row[0], "air", row[1]);
            run.due(row[2] < 0 ? Run.NONE : row[2], "cupMonth", 0);
        }
    }

    private static void monthOrder() {
        Run run = round("19 cupMonth, wrong calls", 'w', 10);
        run.due(Run.INDEX, "cupMonth", 0);
        run.due(0, "panel", 800, 2, 'c', 10);
        run.due(Run.UNSUPPORTED, "cupMonth", 0);
        run.due(0, "face", 0, 0, 0, 1, 's');
        run.due(Run.UNSUPPORTED, "cupMonth", 0);
        run.due(Run.INDEX, "cupMonth", -1);
    }

    private static void scrapes() {
        Run run = round("20, 21 scrape", 'w', 10);
        run.due(Run.INDEX, "scrape", 0, 10);
        run.due(Run.INDEX, "isThrough", 0);
        run.due(0, "panel", 800, 2, 'c', 10);
        run.due(false, "isThrough", 0);
        run.due(Run.UNSUPPORTED, "scrape", 0, 1);
        run.due(0, "face", 0, 0, 0, 1, 's');
        run.due(Run.UNSUPPORTED, "scrape", 0, 1);
        run.due(Run.ARGUMENT, "scrape", 0, 0);
        run.due(Run.INDEX, "scrape", 1, 0);
        run.due(Run.INDEX, "scrape", -1, 1);
        run.due(false, "isThrough", 0);
        run.due(0, "press", 0, 60, 99, 0);
        run.due(Run.ARGUMENT, "scrape", 0, 0);
        run.due(Run.ARGUMENT, "scrape", 0, 100);
        run.due(Run.ARGUMENT, "scrape", 0, -1);
        run.due(20, "scrape", 0, 80);
        run.due(11, "scrape", 0, 9);
        run.due(false, "isThrough", 0);
        run.due(10, "scrape", 0, 1);
        run.due(true, "isThrough", 0);
        run.due(Run.UNSUPPORTED, "scrape", 0, 1);
        run.due(Run.ARGUMENT, "scrape", 0, 0);
        // How thin it was scraped does not matter for the cup.
        run.due(20, "cup", 0, 9);
        run.due(Run.INDEX, "isThrough", 1);
        run.due(Run.INDEX, "isThrough", -1);
    }

    private static void scrapeEdges() {
        Run run = pressed("20 scrape, thin", 'w', 5, 'c', 10, 8);
        run.due(0, "scrape", 0, 99);
        run.due(true, "isThrough", 0);
        run.due(Run.UNSUPPORTED, "scrape", 0, 99);
        run = pressed("20 scrape, thick", 'w', 30, 'c', 10, 8);
        run.due(201, "scrape", 0, 99);
        run.due(102, "scrape", 0, 99);
        run.due(11, "scrape", 0, 91);
        run.due(0, "scrape", 0, 99);
        run.due(true, "isThrough", 0);
    }

    private static void pads() {
        Run run = round("22, 24 pad", 'w', 5);
        run.due(Run.INDEX, "pad", 0, 1);
        run.due(Run.INDEX, "ghosts", 0);
        run.due(0, "panel", 800, 2, 'c', 10);
        run.due(0, "ghosts", 0);
        run.due(Run.UNSUPPORTED, "pad", 0, 1);
        run.due(Run.ARGUMENT, "pad", 0, 0);
        run.due(0, "face", 0, 0, 0, 1, 's');
        run.due(Run.UNSUPPORTED, "pad", 0, 1);
        run.due(Run.ARGUMENT, "pad", 0, 10);
        run.due(Run.INDEX, "pad", 1, 0);
        run.due(Run.INDEX, "pad", -1, 1);
        run.due(0, "press", 0, 60, 99, 0);
        run.due(Run.ARGUMENT, "pad", 0, 0);
        run.due(Run.ARGUMENT, "pad", 0, 10);
        run.due(2, "pad", 0, 1);
        run.due(0, "ghosts", 0);
        run.due(6, "pad", 0, 3);
        run.due(1, "ghosts", 0);
        run.due(6, "pad", 0, 9);
        run.due(10, "ghosts", 0);
        run.due(1, "rest");
        run.due(12, "pad", 0, 3);
        run.due(10, "ghosts", 0);
        run.due(12, "pad", 0, 1);
        run.due(11, "ghosts", 0);
        run.due(0, "scrape", 0, 99);
        run.due(1, "rest");
        run.due(18, "pad", 0, 9);
        run.due(17, "ghosts", 0);
        run.due(Run.INDEX, "ghosts", 1);
        run.due(Run.INDEX, "ghosts", -1);
    }

    private static void mostShine() {
        Run run = pressed("22 pad, 99 at most", 'w', 5, 'c', 10, 8);
        for (int round = 1; round <= 16; round++) {
            run.due(6 * round, "pad", 0, 3);
            run.due(1, "rest");
        }
        run.due(98, "pad", 0, 1);
        run.due(99, "pad", 0, 1);
        run.due(99, "pad", 0, 1);
        run.due(0, "ghosts", 0);
        run.due(99, "pad", 0, 1);
        run.due(1, "ghosts", 0);
        run.due(2 + 160 + 5 + 99 - 3, "price", 0);
    }

    private static void rests() {
        Run run = round("23 rest", 'w', 5);
        for (int panel = 0; panel < 3; panel++) {
            run.due(panel, "panel", 800, 2, 'c', 10);
            run.due(0, "face", panel, 0, panel, 1, 's');
            run.due(0, "press", panel, 60, 99, 0);
        }
        run.due(0, "rest");
        run.due(4, "pad", 2, 2);
        run.due(6, "pad", 0, 4);
        run.due(2, "rest");
        run.due(0, "rest");
        // Each panel has its own charges.
        run.due(6, "pad", 1, 3);
        run.due(10, "pad", 2, 3);
        run.due(0, "ghosts", 1);
        run.due(0, "ghosts", 2);
        run.due(1, "ghosts", 0);
        run.due(2, "rest");
        run.due(12, "pad", 0, 3);
        run.due(1, "ghosts", 0);
        run.due(1, "rest");
        run.due(8, "pad", 1, 1);
        run.due(1, "rest");
    }
}
