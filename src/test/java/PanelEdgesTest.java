/**
 * The edges that "Panels", "Matches", "Glue", "Air and cups" and "Finish" name, each at it and one step on
 * either side of it.
 */
public final class PanelEdgesTest {
    private static final String[] LAYING = {"face", "back", "bestFirst"};

    public static void main(String[] args) {
        fullOfPanels();
        heights();
        strips();
        roundedStrips();
        narrowLeaf();
        offcutWidths();
        laidOnce();
        jumpsOfMany();
        leastJump();
        fewLeavesLeft();
        pressedOnce();
        waiting();
        minutes();
        slitting();
        airNow();
        cutCups();
        flatCups();
        monthsOfAYear();
        endsOfTheAir();
        through();
        thirdCharge();
        shineAtMost();
        restsOfAll();
        Run.end("PanelEdgesTest");
    }

    /** Leaves that are all alike. */
    private static Run rift(String name, int diameter, int length) {
        Run run = new Run(name);
        run.due(0, "log", 'w', diameter, length, 'p');
        run.due(0, "slice", 0, 'r', 10);
        return run;
    }

    private static Run quarter(String name, int diameter, int length) {
        Run run = new Run(name);
        run.due(0, "log", 'h', diameter, length, 'p');
        run.due(0, "slice", 0, 'q', 10);
        return run;
    }

    private static String lay(Run run, String method, int panel, int first, int many) {
        switch (method) {
            case "face":
                return run.answer(method, panel, 0, first, many, 'b');
            case "back":
                return run.answer(method, panel, 0, first, many);
            default:
                return run.answer(method, panel, 0, many, 'b');
        }
    }

    private static void laid(Run run, String method, int panel, int first, int many, boolean right) {
        String got = lay(run, method, panel, first, many);
        String refused = method.equals("bestFirst") ? Run.NONE : Run.UNSUPPORTED;
        Run.check(method + " of " + many + " from " + first + " answered " + got,
            right ? !got.contains("throws") : got.equals(refused));
    }

    /** "At most 8 are numbered from 0". */
    private static void fullOfPanels() {
        Run run = new Run("at most 8 panels");
        for (int number = 0; number < 8; number++) {
            run.due(Run.INDEX, "price", number);
            run.due(number, "panel", 100, 1, 's', 5);
        }
        run.due(Run.STATE, "panel", 100, 1, 's', 5);
        run.due(Run.INDEX, "price", 8);
        run.due(0, "price", 7);
    }

    /** "not shorter than the height". */
    private static void heights() {
        for (String method : LAYING) {
            for (int length : new int[] {1, 2, 10, 19, 20, 21, 40}) {
                for (int height = Math.max(1, length - 1); height <= Math.min(20, length + 1); height++) {
                    Run run = quarter(method + ", height " + height + " of " + length, 400, length);
                    run.due(0, "panel", 100, height, 's', 10);
                    laid(run, method, 0, 3, 1, height <= length);
                }
            }
        }
    }

    /** "not narrower than a strip, the width of the panel divided by their number". */
    private static void strips() {
        for (String method : LAYING) {
            for (int many = 1; many <= 8; many++) {
                for (int width = 130 * many - 1; width <= 130 * many + 1; width++) {
                    Run run = quarter(method + " of " + many + ", width " + width, 300, 10);
                    run.due(0, "panel", width, 10, 's', 10);
                    laid(run, method, 0, 0, many, width <= 130 * many);
                    run.due(true, "isTrue");
                }
            }
        }
    }

    /** ".. rounded up": what is beside the strips tells how wide these are. */
    private static void roundedStrips() {
        // The width of the panel, the number of leaves of 180, and what is left beside each strip.
        int[][] rows = {
            {390, 3, 50}, {389, 3, 50}, {388, 3, 50}, {387, 3, 51}, {385, 3, 51}, {384, 3, 52}, {200, 2, 80},
            {201, 2, 79}, {199, 2, 80}, {1000, 8, 55}, {1001, 8, 54}, {1008, 8, 54}, {1009, 8, 53}, {100, 1, 80},
        };
        for (int[] row : rows) {
            for (String method : new String[] {"face", "back"}) {
                Run run = quarter(method + " of " + row[1] + ", width " + row[0], 400, 10);
                run.due(0, "panel", row[0], 9, 's', 10);
                laid(run, method, 0, 2, row[1], true);
                run.due(row[1], "offcuts", row[2]);
                run.due(row[1] * row[2] * 9, "account", 'o');
                run.due(row[0] * 9, "account", method.charAt(0));
                run.due(row[1] * (1800 - row[2] * 9) - row[0] * 9, "account", 'w');
            }
        }
    }

    /** Each leaf must be wide enough, the first and the last one too: round ones are 300, 294, 288 .. wide. */
    private static void narrowLeaf() {
        for (String method : new String[] {"face", "back"}) {
            for (int first = 7; first <= 9; first++) {
                Run run = new Run(method + " of round leaves from " + first);
                run.due(0, "log", 'w', 100, 10, 'p');
                run.due(0, "slice", 0, 's', 10);
                run.due(0, "panel", 720, 10, 's', 10);
                // The leaves 8, 9 and 10 are 252, 246 and 240 wide, 11 is 234.
                laid(run, method, 0, first, 3, first <= 8);
            }
            for (int first = 1; first <= 3; first++) {
                Run run = new Run(method + " of flat leaves from " + first);
                run.due(0, "log", 'w', 400, 10, 'p');
                run.due(0, "slice", 0, 'f', 10);
                run.due(0, "panel", 696, 10, 's', 10);
                // The leaves 0 and 1 are 346 wide, 2 and 3 are 348.
                laid(run, method, 0, first, 2, first >= 2);
            }
        }
    }

    /** "is an offcut if it is 50 or wider; .. and the rest of the leaves is waste". */
    private static void offcutWidths() {
        for (int beside = 0; beside <= 80; beside++) {
            Run run = quarter("beside the strip " + beside, 400, 10);
            run.due(0, "panel", 180 - beside, 9, 's', 10);
            int rest = 1800 - (180 - beside) * 9;
            int kept = beside >= 50 ? beside * 9 : 0;
            run.due(rest - kept, "back", 0, 0, 0, 1);
            run.due(beside >= 50 ? 1 : 0, "offcuts", beside);
            run.due(kept, "account", 'o');
            run.due(rest - kept, "account", 'w');
        }
    }

    /** "A face, and a back, is laid once": neither keeps the other off, but a press keeps a back off. */
    private static void laidOnce() {
        Run run = quarter("laid once", 400, 10);
        run.due(0, "panel", 100, 10, 's', 10);
        laid(run, "back", 0, 0, 1, true);
        laid(run, "back", 0, 1, 1, false);
        laid(run, "face", 0, 1, 1, true);
        laid(run, "face", 0, 2, 1, false);
        laid(run, "back", 0, 2, 1, false);
        run.due(1, "panel", 100, 10, 's', 10);
        laid(run, "face", 1, 2, 1, true);
        laid(run, "back", 1, 3, 1, true);
        run.due(0, "press", 1, 60, 99, 0);
        laid(run, "face", 1, 4, 1, false);
        laid(run, "back", 1, 4, 1, false);
        run.due(2, "panel", 100, 10, 's', 10);
        laid(run, "face", 2, 4, 1, true);
        run.due(0, "press", 2, 60, 99, 0);
        laid(run, "back", 2, 5, 1, false);
        run.due(5, "bestFirst", 2, 0, 1, 'b');
        run.due(5, "bestFirst", 2, 0, 2, 'b');
    }

    /** "for each such pair 5 if slipped, 3 if reversed; and 4 more for a book of an odd number above 1". */
    private static void jumpsOfMany() {
        int[] book = {0, 0, 0, 4, 0, 4, 0, 4, 0};
        for (int many = 1; many <= 8; many++) {
            oneJump(many, 'b', book[many]);
            oneJump(many, 's', 5 * (many - 1));
            oneJump(many, 'r', 3 * (many - 1));
        }
    }

    private static void oneJump(int many, char match, int jump) {
        Run run = rift("jump of " + many + match, 400, 10);
        run.due(0, "panel", 100, 10, 's', 10);
        run.due(Run.NONE, "jump", 0);
        run.due(jump, "face", 0, 0, 4, many, match);
        run.due(jump, "jump", 0);
        // Flat leaves with the figures 20, 19, 18, 25, 24, 23, 22, 21 from the leaf 5 on.
        int[] differences = {0, 1, 2, 9, 10, 11, 12, 13};
        run.due(1, "log", 'w', 400, 10, 'p');
        run.due(1, "slice", 1, 'f', 10);
        run.due(1, "panel", 100, 10, 's', 10);
        run.due(jump + differences[many - 1], "face", 1, 1, 5, many, match);
        run.due(jump + differences[many - 1], "jump", 1);
        run.due(jump, "jump", 0);
    }

    /** "the lowest first leaf from which a face of a match would have the least jump". */
    private static void leastJump() {
        Run run = rift("all alike", 400, 10);
        run.due(0, "panel", 100, 10, 's', 10);
        run.due(1, "panel", 100, 10, 's', 10);
        for (int many = 1; many <= 8; many++) {
            run.due(0, "bestFirst", 0, 0, many, 'r');
        }
        laid(run, "back", 0, 0, 1, true);
        run.due(1, "bestFirst", 0, 0, 8, 'r');
        laid(run, "back", 1, 5, 1, true);
        run.due(1, "bestFirst", 0, 0, 3, 'b');
        run.due(1, "bestFirst", 0, 0, 4, 's');
        run.due(6, "bestFirst", 0, 0, 5, 's');
        // The figures fall from leaf to leaf, but from 7 to 8 and from 15 to 16 they rise by 7.
        Run flat = new Run("a fall and a rise");
        flat.due(0, "log", 'w', 400, 10, 'p');
        flat.due(0, "slice", 0, 'f', 10);
        flat.due(0, "panel", 100, 10, 's', 10);
        flat.due(0, "bestFirst", 0, 0, 8, 'b');
        laid(flat, "back", 0, 0, 1, true);
        flat.due(8, "bestFirst", 0, 0, 8, 'b');
        flat.due(1, "bestFirst", 0, 0, 7, 'b');
        flat.due(1, "panel", 100, 10, 's', 10);
        laid(flat, "back", 1, 1, 1, true);
        flat.due(8, "bestFirst", 0, 0, 7, 'b');
        flat.due(2, "bestFirst", 0, 0, 6, 'b');
    }

    /** "if it can be laid from none": there are 9 leaves, and then fewer in a row. */
    private static void fewLeavesLeft() {
        Run run = new Run("few leaves");
        run.due(0, "log", 'w', 100, 10, 'p');
        run.due(0, "slice", 0, 'f', 30);
        run.due(9, "leaves", 0);
        for (int panel = 0; panel < 5; panel++) {
            run.due(panel, "panel", 104, 10, 's', 10);
        }
        // Strips of 13, the figures 25 to 18, and 25: 7 from the leaf 0, 13 from 1.
        run.due(0, "bestFirst", 0, 0, 8, 'b');
        laid(run, "back", 0, 0, 2, true);
        run.due(2, "bestFirst", 1, 0, 7, 'b');
        run.due(Run.NONE, "bestFirst", 1, 0, 8, 'b');
        laid(run, "back", 1, 7, 2, true);
        run.due(2, "bestFirst", 1, 0, 5, 'b');
        run.due(Run.NONE, "bestFirst", 1, 0, 6, 'b');
        laid(run, "back", 2, 4, 2, true);
        run.due(2, "bestFirst", 1, 0, 2, 'b');
        run.due(Run.NONE, "bestFirst", 1, 0, 3, 'b');
        laid(run, "back", 3, 2, 2, true);
        // The leaf 6 alone is left, 98 wide, and a strip of 104 is too wide for it.
        run.due(Run.NONE, "bestFirst", 1, 0, 2, 'b');
        run.due(Run.NONE, "bestFirst", 1, 0, 1, 'b');
        run.due(5, "panel", 100, 10, 's', 10);
        run.due(Run.NONE, "bestFirst", 5, 0, 1, 'b');
        run.due(8f / 9f, "usedShare");
    }

    /** "A panel with a face is pressed once". */
    private static void pressedOnce() {
        Run run = quarter("pressed once", 400, 10);
        run.due(0, "panel", 100, 10, 's', 10);
        run.due(Run.UNSUPPORTED, "press", 0, 60, 99, 0);
        laid(run, "back", 0, 0, 1, true);
        run.due(Run.UNSUPPORTED, "press", 0, 60, 99, 0);
        laid(run, "face", 0, 1, 1, true);
        run.due(0, "press", 0, 60, 99, 0);
        run.due(Run.UNSUPPORTED, "press", 0, 0, 1, 60);
        run.due(Run.NONE, "slit", 0);
    }

    private static int press(int many, int core, int warmth, int minutes, int waited) {
        VeneerLoft loft = new VeneerLoft();
        loft.log('w', 400, 10, 'p');
        loft.slice(0, 'r', 10);
        loft.panel(100, 10, 's', core);
        loft.face(0, 0, 0, many, 'b');
        return loft.press(0, warmth, minutes, waited);
    }

    /** "2 for each leaf of the face, if the waiting was longer than 4 and a third of the warmth, cut". */
    private static void waiting() {
        int[][] limits = {
            {0, 4}, {1, 4}, {2, 4}, {3, 5}, {4, 5}, {5, 5}, {6, 6}, {29, 13}, {30, 14}, {31, 14}, {32, 14},
            {33, 15}, {57, 23}, {58, 23}, {59, 23}, {60, 24},
        };
        for (int[] limit : limits) {
            for (int many = 1; many <= 8; many += 7) {
                String name = "warmth " + limit[0] + ", leaves " + many + ", waiting ";
                for (int waited = 0; waited <= 60; waited++) {
                    int due = waited > limit[1] ? 2 * many : 0;
                    Run.check(name + waited, press(many, 10, limit[0], 99, waited) == due);
                }
            }
        }
    }

    /** "1 for each, if the minutes are fewer than 20 and a fourth of the core, less a third of the warmth". */
    private static void minutes() {
        // The core, the warmth, and the fewest minutes without blisters.
        int[][] limits = {
            {5, 0, 21}, {7, 0, 21}, {8, 0, 22}, {9, 0, 22}, {11, 0, 22}, {12, 0, 23}, {13, 0, 23}, {39, 0, 29},
            {40, 0, 30}, {40, 2, 30}, {40, 3, 29}, {40, 5, 29}, {40, 6, 28}, {40, 60, 10}, {5, 59, 2}, {5, 60, 1},
            {7, 60, 1}, {8, 60, 2}, {8, 57, 3},
        };
        for (int[] limit : limits) {
            for (int many = 1; many <= 8; many += 7) {
                String name = "core " + limit[0] + ", warmth " + limit[1] + ", leaves " + many + ", minutes ";
                for (int minutes = 1; minutes <= 99; minutes++) {
                    int due = minutes < limit[2] ? many : 0;
                    Run.check(name + minutes, press(many, limit[0], limit[1], minutes, 4) == due);
                    Run.check(name + minutes, press(many, limit[0], limit[1], minutes, 60) == due + 2 * many);
                }
            }
        }
    }

    /** "A blister can be slit", until there is none. */
    private static void slitting() {
        Run run = quarter("slit", 400, 10);
        run.due(0, "panel", 100, 10, 's', 10);
        run.due(1, "panel", 100, 10, 's', 10);
        laid(run, "face", 0, 0, 8, true);
        laid(run, "face", 1, 8, 1, true);
        run.due(24, "press", 0, 0, 1, 60);
        run.due(1, "press", 1, 0, 1, 0);
        for (int left = 23; left >= 0; left--) {
            run.due(left, "slit", 0);
        }
        run.due(Run.NONE, "slit", 0);
        run.due(0, "slit", 1);
        run.due(Run.NONE, "slit", 1);
    }

    /** "The air is 4 to 20, 8 at first." */
    private static void airNow() {
        Run run = new Run("air");
        run.due(8, "air", 4);
        run.due(Run.ARGUMENT, "air", 3);
        run.due(4, "air", 5);
        run.due(5, "air", 19);
        run.due(19, "air", 20);
        run.due(Run.ARGUMENT, "air", 21);
        run.due(20, "air", 4);
        // A panel is pressed at the air of now, and stays so when that changes.
        Run press = quarter("pressed at the air of now", 400, 10);
        for (int panel = 0; panel < 2; panel++) {
            press.due(panel, "panel", 100, 10, 's', 10);
            laid(press, "face", panel, panel, 1, true);
        }
        press.due(0, "press", 0, 60, 99, 0);
        press.due(8, "air", 20);
        press.due(0, "press", 1, 60, 99, 0);
        for (int air = 4; air <= 20; air++) {
            press.due(40 * (air - 8), "cup", 0, air);
            press.due(40 * (air - 20), "cup", 1, air);
        }
    }

    /** A pressed panel of one leaf of walnut on a crossed core of 40: each step of the air is the thickness by 2. */
    private static Run crossed(String name, int thickness, int air) {
        Run run = new Run(name);
        run.due(0, "log", 'w', 400, 10, 'p');
        run.due(0, "slice", 0, 'q', thickness);
        run.due(0, "panel", 100, 10, 'c', 40);
        laid(run, "face", 0, 0, 1, true);
        run.due(8, "air", air);
        run.due(0, "press", 0, 60, 99, 0);
        return run;
    }

    /** "cut toward 0 at last". */
    private static void cutCups() {
        int[] cups = {2, 3, 3, 4, 4, 5, 5, 6};
        for (int thickness = 5; thickness <= 12; thickness++) {
            Run run = crossed("cup, thickness " + thickness, thickness, 12);
            int cup = cups[thickness - 5];
            run.due(cup, "cup", 0, 13);
            run.due(-cup, "cup", 0, 11);
            run.due(0, "cup", 0, 12);
            run.due(thickness, "cup", 0, 14);
            run.due(-thickness, "cup", 0, 10);
        }
        // Of maple 8 by 10, less of oak 9 by 8, is 8: 80 by the core.
        for (int core : new int[] {40, 39, 11, 10, 9, 5}) {
            Run run = new Run("cup of a small pull, core " + core);
            run.due(0, "log", 'o', 400, 10, 'p');
            run.due(0, "slice", 0, 'q', 8);
            run.due(1, "log", 'm', 400, 10, 'p');
            run.due(1, "slice", 1, 'q', 10);
            run.due(0, "panel", 100, 10, 's', core);
            run.due(0, "face", 0, 1, 0, 1, 'b');
            run.due(0, "back", 0, 0, 0, 1);
            run.due(0, "press", 0, 60, 99, 0);
            run.due(80 / core, "cup", 0, 9);
            run.due(-(80 / core), "cup", 0, 7);
        }
    }

    /** "It is flat if its cup is -3 to 3." */
    private static void flatCups() {
        for (int thickness = 5; thickness <= 9; thickness++) {
            // The cups are 2, 3, 3.5, 4 and 4.5 before they are cut.
            Run run = crossed("flat, thickness " + thickness, thickness, 12);
            run.due(true, "isFlat", 0);
            run.due(12, "air", 13);
            run.due(thickness < 8, "isFlat", 0);
            run.due(13, "air", 11);
            run.due(thickness < 8, "isFlat", 0);
            run.due(11, "air", 14);
            run.due(false, "isFlat", 0);
            run.due(14, "air", 10);
            run.due(false, "isFlat", 0);
        }
    }

    /** "A year has twelve months": the panel is flat within one step of the air at which it was pressed. */
    private static void monthsOfAYear() {
        // The air at the press, that of now, and the month.
        int[][] rows = {
            {4, 4, 5}, {5, 4, 5}, {6, 4, 0}, {4, 5, 4}, {5, 5, 5}, {6, 5, 0}, {4, 6, 3}, {5, 6, 4}, {6, 6, 0},
            {4, 7, 3}, {5, 7, 3}, {6, 7, 0}, {4, 8, 2}, {5, 8, 3}, {5, 9, 2}, {5, 10, 0}, {20, 20, 0}, {19, 20, 0},
            {18, 20, 3}, {17, 20, 3}, {16, 20, 2}, {15, 20, 0}, {20, 19, 0}, {16, 19, 3}, {18, 19, 0}, {15, 18, 3},
        };
        for (int[] row : rows) {
            Run run = crossed("month, " + row[0] + " " + row[1], 7, row[0]);
            run.due(row[0], "air", row[1]);
            run.due(row[2], "cupMonth", 0);
        }
    }

    /** ".. but 4 at least and 20 at most": the panel is flat within two steps, so that the ends of the air tell. */
    private static void endsOfTheAir() {
        int[][] rows = {
            {4, 4, 5}, {5, 4, 6}, {6, 4, -1}, {7, 4, 0}, {5, 5, 5}, {6, 5, 6}, {7, 5, 0}, {6, 6, 5}, {7, 6, 0},
            {7, 7, 0}, {6, 7, 5}, {5, 7, 4}, {4, 7, 3}, {20, 20, 0}, {19, 20, -1}, {18, 20, -1}, {17, 20, 3},
            {16, 20, 3}, {15, 20, 2}, {14, 20, 0}, {19, 19, 0}, {18, 19, -1}, {17, 19, 4}, {16, 19, 3}, {18, 18, 0},
            {17, 18, 5}, {16, 18, 4}, {16, 17, 5},
        };
        for (int[] row : rows) {
            Run run = new Run("ends of the air, " + row[0] + " " + row[1]);
            run.due(0, "log", 'h', 400, 10, 'p');
            run.due(0, "slice", 0, 'q', 5);
            run.due(0, "panel", 100, 10, 'c', 40);
            laid(run, "face", 0, 0, 1, true);
            run.due(8, "air", row[0]);
            run.due(0, "press", 0, 60, 99, 0);
            run.due(row[0], "air", row[1]);
            run.due(row[2] < 0 ? Run.NONE : row[2], "cupMonth", 0);
        }
    }

    /** "it is through if 10 or less are left, and cannot be scraped any more then"; "0 at least". */
    private static void through() {
        // 50 hundredths, less what is scraped.
        int[] scraped = {1, 2, 38, 39, 40, 41, 48, 49, 50, 51, 52, 98, 99};
        for (int hundredths : scraped) {
            Run run = crossed("scrape " + hundredths, 5, 8);
            int left = Math.max(0, 50 - hundredths);
            run.due(left, "scrape", 0, hundredths);
            run.due(left <= 10, "isThrough", 0);
            run.due(left <= 10 ? Run.UNSUPPORTED : left - 1, "scrape", 0, 1);
        }
        Run bare = quarter("through", 400, 10);
        bare.due(0, "panel", 100, 10, 's', 10);
        bare.due(false, "isThrough", 0);
        laid(bare, "back", 0, 0, 1, true);
        bare.due(false, "isThrough", 0);
        laid(bare, "face", 0, 1, 1, true);
        bare.due(false, "isThrough", 0);
        bare.due(0, "press", 0, 60, 99, 0);
        bare.due(false, "isThrough", 0);
    }

    /** "each charge above the third one since the last rest makes a ghost instead". */
    private static void thirdCharge() {
        for (int charges = 1; charges <= 9; charges++) {
            Run run = crossed("charges " + charges, 10, 8);
            int shine = charges < 3 ? 2 * charges : 6;
            int ghosts = charges < 3 ? 0 : charges - 3;
            run.due(shine, "pad", 0, charges);
            run.due(ghosts, "ghosts", 0);
            run.due(Math.min(6, shine + 2), "pad", 0, 1);
            run.due(charges < 3 ? 0 : ghosts + 1, "ghosts", 0);
            run.due(1, "rest");
            run.due(Math.min(6, shine + 2) + 6, "pad", 0, 4);
            run.due((charges < 3 ? 0 : ghosts + 1) + 1, "ghosts", 0);
        }
        Run one = crossed("one charge after another", 10, 8);
        for (int charge = 1; charge <= 6; charge++) {
            one.due(Math.min(6, 2 * charge), "pad", 0, 1);
            one.due(Math.max(0, charge - 3), "ghosts", 0);
        }
    }

    /** "each worth 2 of shine, 99 at most". */
    private static void shineAtMost() {
        Run run = crossed("shine", 10, 8);
        for (int shine = 6; shine <= 96; shine += 6) {
            run.due(shine, "pad", 0, 3);
            run.due(1, "rest");
        }
        run.due(98, "pad", 0, 1);
        run.due(1, "rest");
        run.due(99, "pad", 0, 1);
        run.due(1, "rest");
        // Charges that find no more shine are no ghosts, those above the third one are.
        run.due(99, "pad", 0, 3);
        run.due(0, "ghosts", 0);
        run.due(99, "pad", 0, 1);
        run.due(1, "ghosts", 0);
        Run leap = crossed("shine, from 96 on", 10, 8);
        for (int shine = 6; shine <= 96; shine += 6) {
            leap.due(shine, "pad", 0, 3);
            leap.due(1, "rest");
        }
        leap.due(99, "pad", 0, 2);
        leap.due(0, "ghosts", 0);
    }

    /** "Returns how many had charges since the last rest": none of none, none of all, and all. */
    private static void restsOfAll() {
        Run run = quarter("rest", 400, 10);
        run.due(0, "rest");
        for (int panel = 0; panel < 8; panel++) {
            run.due(panel, "panel", 100, 10, 's', 10);
            laid(run, "face", panel, panel, 1, true);
            run.due(0, "press", panel, 60, 99, 0);
        }
        run.due(0, "rest");
        for (int many = 1; many <= 8; many++) {
            for (int panel = 8 - many; panel < 8; panel++) {
                run.answer("pad", panel, many);
            }
            run.due(many, "rest");
            run.due(0, "rest");
        }
    }
}
