/**
 * The edges that "Pictures" and "Gaps" and the promises of the shop name, each at it and one step on either
 * side of it.
 */
public final class PictureEdgesTest {
    public static void main(String[] args) {
        fullOfPictures();
        rowEnds();
        lettersOfFields();
        edgeOfPicture();
        around();
        sawWidths();
        sawNumbers();
        sawnOnce();
        copiesTurn();
        unlikeFields();
        shades();
        burntAbove();
        gapsAtZero();
        offcutFits();
        narrowestThenLowest();
        emptyAccounts();
        allUsed();
        pricesCut();
        Run.end("PictureEdgesTest");
    }

    private static Run sliced(String name, int diameter, int length, char way) {
        Run run = new Run(name);
        run.due(0, "log", 'w', diameter, length, 'p');
        run.due(0, "slice", 0, way, 10);
        run.due(0, "picture");
        return run;
    }

    /** "At most 4 are numbered from 0". */
    private static void fullOfPictures() {
        Run run = new Run("at most 4 pictures");
        for (int number = 0; number < 4; number++) {
            run.due(Run.INDEX, "pieces", number);
            run.due(number, "picture");
            run.due(1, "pieces", number);
        }
        run.due(Run.STATE, "picture");
        run.due(Run.INDEX, "pieces", 4);
    }

    /** "8 rows of 8 places": what a row holds from each place on, and nothing of the next row is drawn. */
    private static void rowEnds() {
        for (int column = 0; column < 8; column++) {
            for (int many = 0; many <= 9; many++) {
                Run run = new Run("draw " + many + " from " + column);
                run.due(0, "picture");
                if (many < 1 || column + many > 8) {
                    run.due(Run.ARGUMENT, "draw", 0, 3, column, many, 'b');
                    continue;
                }
                boolean parts = column == 0 && many == 8;
                run.due(parts ? 3 : 2, "draw", 0, 3, column, many, 'b');
                for (int row = 2; row <= 4; row++) {
                    for (int place = 0; place < 8; place++) {
                        boolean drawn = row == 3 && place >= column && place < column + many;
                        run.due(drawn ? 'b' : 'a', "fieldAt", 0, row, place);
                    }
                }
            }
        }
    }

    /** "fields are 'a' to 'h'". */
    private static void lettersOfFields() {
        Run run = new Run("fields");
        run.due(0, "picture");
        for (char field = 'a'; field <= 'h'; field++) {
            run.due(field == 'a' ? 1 : 2, "draw", 0, 7, 7, 1, field);
            run.due(field, "fieldAt", 0, 7, 7);
        }
        run.due(Run.ARGUMENT, "draw", 0, 7, 7, 1, 'i');
        run.due(Run.ARGUMENT, "draw", 0, 7, 7, 1, (char) ('a' - 1));
        run.due('h', "fieldAt", 0, 7, 7);
    }

    /** "and none is at the edge": each place alone, in the midst of 'a'. */
    private static void edgeOfPicture() {
        for (int row = 0; row < 8; row++) {
            for (int column = 0; column < 8; column++) {
                Run run = new Run("an island at " + row + " " + column);
                run.due(0, "picture");
                run.due(2, "draw", 0, row, column, 1, 'e');
                boolean inside = row >= 1 && row <= 6 && column >= 1 && column <= 6;
                run.due(inside ? 1 : 0, "islands", 0);
            }
        }
        // Of a long one, one place reaches the edge.
        Run run = new Run("a long one");
        run.due(0, "picture");
        run.due(2, "draw", 0, 4, 1, 6, 'b');
        run.due(1, "islands", 0);
        run.due(2, "draw", 0, 4, 7, 1, 'b');
        run.due(0, "islands", 0);
        run.due(2, "draw", 0, 4, 7, 1, 'a');
        run.due(1, "islands", 0);
        run.due(3, "draw", 0, 4, 0, 8, 'b');
        run.due(0, "islands", 0);
    }

    /** "all places around them along sides are of one other field": another one above, below, left or right. */
    private static void around() {
        int[][] sides = {{2, 3}, {4, 3}, {3, 2}, {3, 4}};
        for (int[] side : sides) {
            Run run = new Run("another field at " + side[0] + " " + side[1]);
            run.due(0, "picture");
            run.due(2, "draw", 0, 3, 3, 1, 'b');
            run.due(1, "islands", 0);
            run.due(3, "draw", 0, side[0], side[1], 1, 'c');
            run.due(0, "islands", 0);
            run.due(2, "draw", 0, side[0], side[1], 1, 'b');
            run.due(1, "islands", 0);
        }
        int[][] corners = {{2, 2}, {2, 4}, {4, 2}, {4, 4}};
        for (int[] corner : corners) {
            Run run = new Run("another field at the corner " + corner[0] + " " + corner[1]);
            run.due(0, "picture");
            run.due(2, "draw", 0, 3, 3, 1, 'b');
            run.due(3, "draw", 0, corner[0], corner[1], 1, 'c');
            run.due(2, "islands", 0);
            run.due(3, "draw", 0, corner[0], corner[1], 1, 'b');
            run.due(2, "islands", 0);
        }
    }

    /** "each at least 80 wide": all, the last and the first one. */
    private static void sawWidths() {
        for (int diameter = 196; diameter <= 204; diameter += 2) {
            Run run = sliced("saw, width " + (diameter / 2 - 20), diameter, 1, 'q');
            int width = diameter / 2 - 20;
            run.due(width < 80 ? Run.UNSUPPORTED : 3 * (width - 64), "saw", 0, 0, 5, 3);
        }
        // Round ones of 300, 282, 264 ..: the leaf 12 is 84 wide, 13 is 66.
        for (int first = 9; first <= 11; first++) {
            Run run = new Run("saw, the last is too narrow, from " + first);
            run.due(0, "log", 'w', 100, 1, 'p');
            run.due(0, "slice", 0, 's', 30);
            run.due(0, "picture");
            int sum = 3 * 300 - 18 * (3 * first + 3) - 3 * 64;
            run.due(first == 11 ? Run.UNSUPPORTED : sum, "saw", 0, 0, first, 3);
        }
    }

    /** "a packet of 2 to 8 unused leaves": "of each, 64 square centimetres become a copy". */
    private static void sawNumbers() {
        for (int many = 0; many <= 9; many++) {
            Run run = sliced("saw " + many, 400, 10, 'q');
            if (many < 2 || many > 8) {
                run.due(Run.ARGUMENT, "saw", 0, 0, 3, many);
                run.due(Run.NONE, "contrast", 0, 0);
                continue;
            }
            run.due(many * (1800 - 64), "saw", 0, 0, 3, many);
            run.due(many * 64, "account", 'p');
            run.due(many * (1800 - 64), "account", 'w');
            run.due(0, "account", 'o');
            run.due((24 - many) * 1800, "account", 'l');
            for (int copy = -1; copy <= many; copy++) {
                run.due(copy < 0 || copy == many ? Run.NONE : 0, "contrast", 0, copy);
            }
        }
    }

    /** "A picture is sawn once", and not drawn on any more. */
    private static void sawnOnce() {
        Run run = sliced("sawn once", 400, 10, 'q');
        run.due(2, "draw", 0, 3, 3, 1, 'b');
        run.due(2 * 1736, "saw", 0, 0, 0, 2);
        run.due(Run.UNSUPPORTED, "saw", 0, 0, 2, 2);
        run.due(Run.UNSUPPORTED, "draw", 0, 3, 3, 1, 'b');
        run.due('b', "fieldAt", 0, 3, 3);
        run.due(2, "pieces", 0);
        run.due(1, "islands", 0);
        run.due(false, "isUsed", 0, 2);
        run.due(1, "picture");
        run.due(2, "draw", 1, 3, 3, 1, 'b');
        run.due(2 * 1736, "saw", 1, 0, 2, 2);
    }

    /** "The copy c has in the field f, 0 for 'a', the leaf f and c, modulo the number of leaves". */
    private static void copiesTurn() {
        for (int many = 2; many <= 8; many++) {
            Run run = sliced("copies of " + many, 400, 10, 'q');
            for (int field = 0; field < 8; field++) {
                run.due(field == 0 ? 1 : field < 7 ? field + 2 : 8, "draw", 0, field, 0, 8, (char) ('a' + field));
            }
            run.due(many * 1736, "saw", 0, 0, 11, many);
            for (int copy = 0; copy < many; copy++) {
                int turned = copy;
                for (int field = 0; field < 8; field++) {
                    run.due(11 + turned, "leafAt", 0, copy, field, 7 - field);
                    turned = turned + 1 == many ? 0 : turned + 1;
                }
            }
            run.due(Run.NONE, "leafAt", 0, many, 0, 0);
            run.due(Run.NONE, "leafAt", 0, -1, 0, 0);
        }
    }

    /** "over all two places joined along a side with unlike fields": corners and row ends are not joined. */
    private static void unlikeFields() {
        // Flat ones with the figures 25, 24, 23 ..: 'b' is 1 away from 'a' in the copy 0.
        int[][] places = {
            {0, 0, 2}, {0, 3, 3}, {0, 7, 2}, {3, 0, 3}, {3, 3, 4}, {3, 7, 3}, {7, 0, 2}, {7, 3, 3}, {7, 7, 2},
        };
        for (int[] place : places) {
            Run run = sliced("contrast at " + place[0] + " " + place[1], 400, 10, 'f');
            run.due(2, "draw", 0, place[0], place[1], 1, 'b');
            run.due(3460 * 2 + 3480 - 192, "saw", 0, 0, 0, 3);
            run.due(place[2], "contrast", 0, 0);
            run.due(place[2], "contrast", 0, 1);
            run.due(2 * place[2], "contrast", 0, 2);
        }
        Run whole = sliced("contrast of two halves", 400, 10, 'f');
        for (int row = 0; row < 4; row++) {
            whole.due(2, "draw", 0, row, 0, 8, 'b');
        }
        whole.due(3460 * 2 - 128, "saw", 0, 0, 0, 2);
        whole.due(8, "contrast", 0, 0);
        whole.due(8, "contrast", 0, 1);
    }

    private static Run sawn(String name) {
        Run run = sliced(name, 400, 10, 'q');
        run.due(2 * 1736, "saw", 0, 0, 0, 2);
        return run;
    }

    /** "by the degrees above 100 times the seconds, divided by 50, cut, more, 99 at most". */
    private static void shades() {
        // The degrees, the seconds and the shade.
        int[][] rows = {
            {100, 1, 0}, {100, 60, 0}, {101, 1, 0}, {101, 49, 0}, {101, 50, 1}, {101, 51, 1}, {102, 24, 0},
            {102, 25, 1}, {102, 49, 1}, {102, 50, 2}, {103, 33, 1}, {103, 34, 2}, {149, 1, 0}, {150, 1, 1}, {151, 1, 1},
            {299, 1, 3}, {300, 1, 4}, {300, 24, 96}, {300, 25, 99}, {300, 60, 99}, {198, 50, 98}, {199, 50, 99},
            {200, 50, 99}, {201, 50, 99},
        };
        for (int[] row : rows) {
            Run run = sawn("shade at " + row[0] + " for " + row[1]);
            run.due(row[2], "sand", 0, 'd', row[0], row[1]);
            run.due(Math.min(99, row[2] + 1), "sand", 0, 'd', 150, 1);
            // Each field has its own shade, and each picture.
            run.due(1, "sand", 0, 'c', 150, 1);
            run.due(1, "sand", 0, 'e', 150, 1);
        }
        Run more = sawn("shade, more and more");
        more.due(97, "sand", 0, 'h', 197, 50);
        more.due(98, "sand", 0, 'h', 150, 1);
        more.due(99, "sand", 0, 'h', 150, 1);
        more.due(99, "sand", 0, 'h', 150, 1);
        more.due(1, "picture");
        more.due(2 * 1736, "saw", 1, 0, 2, 2);
        more.due(1, "sand", 1, 'h', 150, 1);
    }

    /** "it is burnt if it is above 90". */
    private static void burntAbove() {
        for (int shade = 88; shade <= 93; shade++) {
            Run run = sawn("burnt at " + shade);
            run.due(0, "burnt", 0);
            run.due(shade, "sand", 0, 'a', 100 + shade, 50);
            run.due(shade > 90 ? 1 : 0, "burnt", 0);
            run.due(shade, "sand", 0, 'h', 100 + shade, 50);
            run.due(shade > 90 ? 2 : 0, "burnt", 0);
        }
        Run step = sawn("burnt step by step");
        step.due(90, "sand", 0, 'b', 190, 50);
        step.due(0, "burnt", 0);
        step.due(91, "sand", 0, 'b', 150, 1);
        step.due(1, "burnt", 0);
        for (char field = 'a'; field <= 'h'; field++) {
            step.due(99, "sand", 0, field, 300, 60);
        }
        step.due(8, "burnt", 0);
    }

    /** "the product being divided by 1000, cut; 0 at least". */
    private static void gapsAtZero() {
        // The thickness, the bevel, and the product by 1000.
        int[][] rows = {
            {5, 1, 0}, {5, 2, 1}, {6, 1, 1}, {20, 5, 17}, {10, 5, 8}, {25, 10, 44}, {24, 10, 42}, {26, 10, 45},
            {30, 14, 74}, {30, 15, 80}, {29, 15, 77}, {20, 8, 28}, {30, 4, 21}, {10, 4, 7}, {30, 0, 0},
        };
        for (int[] row : rows) {
            Run run = new Run("gap of " + row[0] + " at " + row[1]);
            for (int kerf = Math.max(1, row[2] - 2); kerf <= row[2] + 2; kerf++) {
                run.due(Math.max(0, kerf - row[2]), "gap", kerf, row[0], row[1]);
            }
            run.due(99 - row[2], "gap", 99, row[0], row[1]);
        }
    }

    /** An offcut of 130 by 5 fits what is as wide and as high at most. */
    private static void offcutFits() {
        for (int width = 129; width <= 131; width++) {
            for (int height = 4; height <= 6; height++) {
                Run run = sliced("an offcut for " + width + " by " + height, 500, 10, 'q');
                run.due(0, "panel", 100, 5, 's', 10);
                run.due(0, "face", 0, 0, 0, 1, 'b');
                boolean fits = width <= 130 && height <= 5;
                run.due(fits ? 130 : Run.NONE, "takeOffcut", width, height);
                run.due(fits ? 0 : 1, "offcuts", 130);
                run.due(0, "offcuts", 129);
                run.due(0, "offcuts", 131);
                run.due(fits ? 650 : 0, "account", 'r');
                run.due(fits ? 0 : 650, "account", 'o');
                run.due(Run.NONE, "takeOffcut", 131, 1);
            }
        }
        Run none = new Run("no offcut");
        none.due(Run.NONE, "takeOffcut", 50, 1);
        none.due(Run.ARGUMENT, "takeOffcut", 49, 1);
        none.due(0, "offcuts", 50);
    }

    /** "of those that are so wide and so high at least the narrowest, of these the least high". */
    private static void narrowestThenLowest() {
        Run run = sliced("the narrowest, then the least high", 600, 20, 'q');
        int[][] sizes = {{131, 5}, {130, 9}, {130, 7}, {130, 8}, {130, 7}, {129, 20}};
        for (int i = 0; i < sizes.length; i++) {
            run.due(i, "panel", 280 - sizes[i][0], sizes[i][1], 's', 10);
            run.due(0, "face", i, 0, i, 1, 'b');
        }
        int repaired = 0;
        // What is asked for, and what is taken.
        int[][] takes = {
            {130, 7, 130, 7}, {130, 7, 130, 7}, {130, 7, 130, 8}, {130, 5, 130, 9}, {129, 20, 129, 20},
            {129, 5, 131, 5},
        };
        for (int[] take : takes) {
            run.due(take[2], "takeOffcut", take[0], take[1]);
            repaired += take[2] * take[3];
            run.due(repaired, "account", 'r');
        }
        run.due(Run.NONE, "takeOffcut", 50, 1);
        run.due(true, "isTrue");
    }

    /** Nothing was bought, and then nothing was sliced. */
    private static void emptyAccounts() {
        Run run = new Run("nothing");
        for (int bought = 0; bought < 2; bought++) {
            for (char kind : "fbporwl".toCharArray()) {
                run.due(0, "account", kind);
            }
            run.due(Run.ARITHMETIC, "usedShare");
            run.due(Run.ARITHMETIC, "meanFigure");
            run.due(7 * 31, "checksum");
            run.due(true, "isTrue");
            run.due(bought, "log", 'w', 400, 10, 'p');
        }
        run.due(0, "slice", 0, 'r', 10);
        run.due(0.0f, "usedShare");
        run.due(15.0, "meanFigure");
        run.due(7 * 31 * 31, "checksum");
    }

    /** All leaves are used, then there are none for anything. */
    private static void allUsed() {
        Run run = sliced("all leaves", 400, 10, 'r');
        for (int panel = 0; panel < 3; panel++) {
            run.due(panel, "panel", 1000, 10, 's', 10);
        }
        run.due(21, "face", 0, 0, 0, 8, 'r');
        run.due(21, "face", 1, 0, 8, 8, 'r');
        run.due(7 * 1440 - 7 * 64, "saw", 0, 0, 17, 7);
        run.due((float) 23 / (float) 24, "usedShare");
        run.due(1440, "account", 'l');
        run.due(3, "panel", 100, 10, 's', 10);
        run.due(16, "bestFirst", 3, 0, 1, 'b');
        run.due(Run.NONE, "bestFirst", 3, 0, 2, 'b');
        run.due(1, "picture");
        run.due(Run.UNSUPPORTED, "saw", 1, 0, 15, 2);
        run.due(Run.UNSUPPORTED, "saw", 1, 0, 16, 2);
        run.due(440, "back", 3, 0, 16, 1);
        run.due(1.0f, "usedShare");
        run.due(0, "account", 'l');
        run.due(Run.NONE, "bestFirst", 2, 0, 1, 'b');
        run.due(Run.UNSUPPORTED, "face", 3, 0, 16, 1, 'b');
        run.due(15.0, "meanFigure");
        run.due(true, "isTrue");
        run.due(1, "log", 'w', 400, 10, 'p');
        run.due(1.0f, "usedShare");
        run.due(1, "slice", 1, 'r', 10);
        run.due(0.5f, "usedShare");
    }

    /** "1 for each 10 square centimetres of its face, cut". */
    private static void pricesCut() {
        for (int width = 108; width <= 121; width++) {
            Run run = sliced("price of " + width, 500, 1, 'q');
            run.due(0, "panel", width, 1, 's', 10);
            run.due(0, "price", 0);
            run.due(0, "face", 0, 0, 0, 1, 'b');
            run.due(2 + (width < 110 ? 10 : width < 120 ? 11 : 12), "price", 0);
        }
    }
}
