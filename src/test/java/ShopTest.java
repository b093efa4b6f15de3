import java.lang.reflect.Field;
import java.util.List;

/** Promises 36 to 43: offcuts, accounts, prices, shares, sums and checks. */
public final class ShopTest {
    public static void main(String[] args) throws ReflectiveOperationException {
        offcuts();
        takes();
        takeOrder();
        accounts();
        prices();
        shares();
        means();
        checksums();
        truth();
        Run.end("ShopTest");
    }

    /** A quarter of mahogany of 250 radius: 24 leaves, 230 wide, 12 long, with the figures 14, 15, 15, 16 .. */
    private static Run quarter(String name) {
        Run run = new Run(name);
        run.due(0, "log", 'h', 500, 12, 'p');
        run.due(0, "slice", 0, 'q', 10);
        return run;
    }

    private static void offcuts() {
        Run run = quarter("36 offcuts");
        run.due(0, "offcuts", 130);
        run.due(0, "panel", 100, 5, 's', 10);
        run.due(0, "face", 0, 0, 0, 1, 'b');
        run.due(1, "offcuts", 130);
        run.due(0, "offcuts", 129);
        run.due(0, "offcuts", 131);
        run.due(0, "offcuts", 0);
        run.due(0, "offcuts", -1);
        run.due(0, "offcuts", Integer.MIN_VALUE);
        run.due(0, "offcuts", Integer.MAX_VALUE);
        run.due(1, "panel", 300, 5, 's', 10);
        run.answer("back", 1, 0, 1, 3);
        run.due(4, "offcuts", 130);
        run.due(2, "panel", 181, 5, 's', 10);
        run.due(3, "panel", 180, 5, 's', 10);
        run.due(0, "face", 2, 0, 4, 1, 'b');
        run.due(0, "face", 3, 0, 5, 1, 'b');
        run.due(0, "offcuts", 49);
        run.due(1, "offcuts", 50);
        run.due(130, "takeOffcut", 100, 5);
        run.due(3, "offcuts", 130);
    }

    private static void takes() {
        Run run = new Run("37 takeOffcut");
        run.due(0, "log", 'h', 600, 12, 'p');
        run.due(0, "slice", 0, 'q', 10);
        int[][] sizes = {{130, 5}, {100, 3}, {130, 9}, {100, 2}, {150, 1}, {130, 7}};
        for (int i = 0; i < sizes.length; i++) {
            run.due(i, "panel", 280 - sizes[i][0], sizes[i][1], 's', 10);
            run.due(0, "face", i, 0, i, 1, 'b');
        }
        int all = 650 + 300 + 1170 + 200 + 150 + 910;
        run.due(all, "account", 'o');
        run.due(0, "account", 'r');
        run.due(Run.NONE, "takeOffcut", 50, 10);
        run.due(Run.NONE, "takeOffcut", 151, 1);
        run.due(Run.NONE, "takeOffcut", 131, 2);
        // The narrowest that is high enough, then the least high of these.
        run.due(130, "takeOffcut", 50, 6);
        run.due(910, "account", 'r');
        run.due(all - 910, "account", 'o');
        run.due(100, "takeOffcut", 50, 1);
        run.due(1110, "account", 'r');
        run.due(130, "takeOffcut", 101, 1);
        run.due(1760, "account", 'r');
        run.due(100, "takeOffcut", 100, 3);
        run.due(2060, "account", 'r');
        run.due(Run.NONE, "takeOffcut", 150, 2);
        run.due(130, "takeOffcut", 130, 9);
        run.due(3230, "account", 'r');
        run.due(150, "takeOffcut", 150, 1);
        run.due(all, "account", 'r');
        run.due(0, "account", 'o');
        run.due(Run.NONE, "takeOffcut", 50, 1);
        run.due(true, "isTrue");
    }

    private static void takeOrder() {
        Run run = new Run("37 takeOffcut, wrong calls");
        run.due(Run.ARGUMENT, "takeOffcut", 49, 1);
        run.due(Run.ARGUMENT, "takeOffcut", 4001, 1);
        run.due(Run.ARGUMENT, "takeOffcut", 50, 0);
        run.due(Run.ARGUMENT, "takeOffcut", 50, 21);
        run.due(Run.ARGUMENT, "takeOffcut", Integer.MIN_VALUE, 1);
        run.due(Run.NONE, "takeOffcut", 50, 1);
        run.due(Run.NONE, "takeOffcut", 4000, 20);
        run.due(0, "log", 'h', 999, 20, 'p');
        run.due(0, "slice", 0, 's', 10);
        run.due(0, "panel", 100, 20, 's', 10);
        run.due(0, "face", 0, 0, 0, 1, 'b');
        run.due(Run.NONE, "takeOffcut", 4000, 20);
        run.due(Run.ARGUMENT, "takeOffcut", 4001, 20);
        run.due(2897, "takeOffcut", 2897, 20);
    }

    private static void accounts() {
        Run run = quarter("38 account");
        run.due(24 * 2760, "account", 'l');
        run.due(0, "panel", 200, 10, 's', 10);
        run.due(1, "face", 0, 0, 0, 2, 'b');
        run.due(760, "back", 0, 0, 2, 1);
        run.due(0, "picture");
        run.due(8088, "saw", 0, 0, 3, 3);
        run.due(2000, "account", 'f');
        run.due(2000, "account", 'b');
        run.due(192, "account", 'p');
        run.due(2600, "account", 'o');
        run.due(0, "account", 'r');
        run.due(920 + 760 + 8088, "account", 'w');
        run.due(18 * 2760, "account", 'l');
        run.due(130, "takeOffcut", 130, 10);
        run.due(1300, "account", 'o');
        run.due(1300, "account", 'r');
        run.due(9768, "account", 'w');
        run.due(1, "log", 'h', 100, 40, 'p');
        run.due(18 * 2760, "account", 'l');
        run.due(1, "slice", 1, 'q', 30);
        run.due(18 * 2760 + 16 * 30 * 40, "account", 'l');
        for (char kind : "acdeghF\0xyz".toCharArray()) {
            run.due(Run.ARGUMENT, "account", kind);
        }
        run.due(Run.ARGUMENT, "account", (char) 65535);
        run.due(Run.ARGUMENT, "account", (char) ('f' + 256));
    }

    private static void prices() {
        Run run = quarter("39 price");
        run.due(Run.INDEX, "price", 0);
        run.due(0, "panel", 109, 1, 's', 10);
        run.due(0, "price", 0);
        run.due(0, "face", 0, 0, 0, 1, 's');
        run.due(2 + 10, "price", 0);
        run.answer("back", 0, 0, 1, 3);
        run.due(12 + 6, "price", 0);
        run.due(3, "press", 0, 0, 1, 60);
        run.due(18 + 5 - 9, "price", 0);
        run.due(2, "slit", 0);
        run.due(17, "price", 0);
        run.due(6, "pad", 0, 4);
        run.due(17 + 6 - 3, "price", 0);
        run.due(6, "pad", 0, 9);
        run.due(20 - 27, "price", 0);
        run.due(1, "rest");
        run.due(-7, "price", 0);
        run.due(1, "panel", 200, 1, 's', 10);
        run.answer("back", 1, 0, 4, 2);
        run.due(4, "price", 1);
        run.due(Run.INDEX, "price", 2);
        run.due(Run.INDEX, "price", -1);
    }

    private static void shares() {
        Run run = new Run("40 usedShare");
        run.due(Run.ARITHMETIC, "usedShare");
        run.due(0, "log", 'h', 500, 12, 'p');
        run.due(Run.ARITHMETIC, "usedShare");
        run.due(0, "slice", 0, 'q', 10);
        run.due(0.0f, "usedShare");
        run.due(0, "panel", 200, 10, 's', 10);
        run.due(1, "face", 0, 0, 0, 2, 'b');
        run.due((float) 2 / (float) 24, "usedShare");
        run.due(1, "log", 'h', 100, 40, 'p');
        run.due((float) 2 / (float) 24, "usedShare");
        run.due(1, "slice", 1, 'f', 30);
        run.due((float) 2 / (float) 33, "usedShare");
        run.answer("back", 0, 0, 2, 3);
        run.due(0, "picture");
        run.answer("saw", 0, 1, 7, 2);
        run.due((float) 7 / (float) 33, "usedShare");
    }

    private static void means() {
        Run run = new Run("41 meanFigure");
        run.due(Run.ARITHMETIC, "meanFigure");
        run.due(0, "log", 'h', 500, 12, 'p');
        run.due(Run.ARITHMETIC, "meanFigure");
        run.due(0, "slice", 0, 'q', 10);
        // 24 times 20, less 36 and 30.
        run.due(17.25, "meanFigure");
        run.due(1, "log", 'w', 100, 1, 'b');
        run.due(17.25, "meanFigure");
        run.due(1, "slice", 1, 'r', 30);
        run.due((414 + 16 * 65) / 40.0, "meanFigure");
        run.due(2, "log", 'w', 100, 1, 'c');
        run.due(2, "slice", 2, 'f', 30);
        // 9 flat leaves of a crotch: 55, 54 down to 48, and 55.
        run.due((1454 + 412 + 55) / 49.0, "meanFigure");
        run.due(0, "panel", 200, 10, 's', 10);
        run.due(1, "face", 0, 0, 0, 2, 'b');
        run.due((1454 + 412 + 55) / 49.0, "meanFigure");
    }

    private static void checksums() {
        Run run = quarter("42 checksum");
        run.due(7L * 31 * 31, "checksum");
        run.due(1, "log", 'h', 500, 12, 'p');
        run.due(1, "slice", 1, 's', 10);
        run.due(0, "panel", 200, 10, 's', 10);
        run.due(1, "panel", 200, 1, 's', 10);
        run.due(1, "face", 0, 0, 0, 2, 'b');
        run.due(0, "picture");
        run.due(2, "draw", 0, 4, 4, 1, 'b');
        // 2 and 0 leaves, prices of 204 and 0, 2 pieces, a waste of 920.
        run.due(6275862415L, "checksum");
        run.answer("press", 0, 0, 1, 60);
        run.due(0, "face", 1, 0, 2, 1, 'b');
        run.answer("press", 1, 0, 1, 60);
        run.answer("pad", 1, 9);
        // Prices of 204, 5 less 18, and of 2, 20, 5, 6 less 9 and 18; 30 by 12 and 200 by 11 are waste.
        long sum = (7L * 31 + 3) * 31;
        sum = (sum * 31 + 191) * 31 + 6;
        sum = (sum * 31 + 2) * 31 + 920 + 2560;
        run.due(sum, "checksum");
        run.answer("pad", 1, 9);
        run.due(sum - 27L * 31 * 31, "checksum");
    }

    /** A state that no calls lead to is told: waste, a used leaf, places of a piece. */
    private static void truth() throws ReflectiveOperationException {
        Run run = quarter("43 isTrue");
        run.due(true, "isTrue");
        run.due(0, "panel", 200, 10, 's', 10);
        run.due(1, "face", 0, 0, 0, 2, 'b');
        run.due(0, "picture");
        run.due(2, "draw", 0, 4, 4, 1, 'b');
        run.answer("saw", 0, 0, 5, 2);
        run.due(130, "takeOffcut", 60, 1);
        run.due(true, "isTrue");
        for (String area : new String[] {"faceArea", "backArea", "pictureArea", "repairArea", "wasteArea"}) {
            Field field = fieldOf(run.loft, area);
            field.setInt(run.loft, field.getInt(run.loft) + 1);
            run.due(false, "isTrue");
            field.setInt(run.loft, field.getInt(run.loft) - 1);
            run.due(true, "isTrue");
        }
        Object picture = ((List<?>) fieldOf(run.loft, "pictures").get(run.loft)).get(0);
        fieldOf(picture, "placeCount").setInt(picture, 63);
        run.due(false, "isTrue");
        fieldOf(picture, "placeCount").setInt(picture, 64);
        run.due(true, "isTrue");
        Object flitch = ((List<?>) fieldOf(run.loft, "flitches").get(run.loft)).get(0);
        boolean[] taken = (boolean[]) fieldOf(flitch, "taken").get(flitch);
        Field waste = fieldOf(run.loft, "wasteArea");
        taken[9] = true;
        waste.setInt(run.loft, waste.getInt(run.loft) + 2760);
        run.due(false, "isTrue");
        taken[9] = false;
        taken[0] = false;
        waste.setInt(run.loft, waste.getInt(run.loft) - 2 * 2760);
        run.due(false, "isTrue");
    }

    private static Field fieldOf(Object object, String name) throws NoSuchFieldException {
        Field field = object.getClass().getDeclaredField(name);
        field.setAccessible(true);
        return field;
    }
}
