import java.util.ArrayList;
import java.util.NoSuchElementException;

/** A loft of veneers: logs, flitches, panels, pictures, offcuts and their accounts. */
public final class VeneerLoft {
    private static final int MOST_LOGS = 8;
    private static final int MOST_PANELS = 8;
    private static final int MOST_PICTURES = 4;
    private static final int MOST_LEAVES = 24;
    private static final int MOST_LAID = 8;
    private static final int LEAST_SAWN = 2;
    private static final int LEAST_SAWN_WIDTH = 80;
    private static final int LEAST_OFFCUT = 50;
    private static final int COPY_AREA = 64;
    private static final int LEAST_AIR = 4;
    private static final int MOST_AIR = 20;
    private static final int THROUGH = 10;
    private static final int BURNT = 90;
    private static final int MOST_OF_ALL = 99;
    private static final int CHARGES_A_REST = 3;
    private static final int SIDE = 8;
    private static final int PLACES = 64;
    private static final int FIELDS = 8;

    private static final String WOODS = "wmoh";
    private static final String FORMS = "pcb";
    private static final String WAYS = "fqrs";
    private static final String CORES = "scb";
    private static final String MATCHES = "bsr";

    private static final int[] MONTHS = {-3, -3, -2, 0, 1, 3, 4, 4, 2, 0, -1, -2};
    private static final int[] TANGENTS =
        {0, 17, 35, 52, 70, 87, 105, 123, 141, 158, 176, 194, 213, 231, 249, 268};

    private final ArrayList<Log> logs = new ArrayList<>();
    private final ArrayList<Flitch> flitches = new ArrayList<>();
    private final ArrayList<Panel> panels = new ArrayList<>();
    private final ArrayList<Picture> pictures = new ArrayList<>();
    private final ArrayList<Offcut> offcutList = new ArrayList<>();
    private int airNow = 8;
    private int faceArea;
    private int backArea;
    private int pictureArea;
    private int repairArea;
    private int wasteArea;

    public VeneerLoft() {
    }

    // Logs and flitches

    public int log(char wood, int diameter, int length, char form)
            throws IllegalArgumentException, IllegalStateException {
        boolean known = isOneOf(WOODS, wood) && isOneOf(FORMS, form);
        if (!known || !isIn(diameter, 100, 999) || !isIn(length, 1, 40)) {
            throw new IllegalArgumentException();
        }
        if (logs.size() >= MOST_LOGS) {
            throw new IllegalStateException();
        }
        logs.add(new Log(wood, diameter, length, form));
        return logs.size() - 1;
    }

    public int slice(int log, char way, int thickness)
            throws IndexOutOfBoundsException, IllegalArgumentException, UnsupportedOperationException {
        Log tree = logOf(log);
        if (!isOneOf(WAYS, way) || !isIn(thickness, 5, 30)) {
            throw new IllegalArgumentException();
        }
        if (tree.sliced) {
            throw new UnsupportedOperationException();
        }
        tree.sliced = true;
        flitches.add(new Flitch(tree, way, thickness));
        return flitches.size() - 1;
    }

    public int leaves(int flitch) throws IndexOutOfBoundsException {
        return flitchOf(flitch).count;
    }

    public int width(int flitch, int leaf) throws IndexOutOfBoundsException {
        return flitchWithLeaf(flitch, leaf).widthOf(leaf);
    }

    public int area(int flitch, int leaf) throws IndexOutOfBoundsException {
        return flitchWithLeaf(flitch, leaf).areaOf(leaf);
    }

    public int figure(int flitch, int leaf) throws IndexOutOfBoundsException {
        return flitchWithLeaf(flitch, leaf).figureOf(leaf);
    }

    public boolean isUsed(int flitch, int leaf) throws IndexOutOfBoundsException {
        return flitchWithLeaf(flitch, leaf).isTaken(leaf);
    }

    // Panels and matches

    public int panel(int width, int height, char core, int thickness)
            throws IllegalArgumentException, IllegalStateException {
        boolean sized = isIn(width, 100, 2000) && isIn(height, 1, 20) && isIn(thickness, 5, 40);
        if (!sized || !isOneOf(CORES, core)) {
            throw new IllegalArgumentException();
        }
        if (panels.size() >= MOST_PANELS) {
            throw new IllegalStateException();
        }
        panels.add(new Panel(width, height, core, thickness));
        return panels.size() - 1;
    }

    public int face(int panel, int flitch, int first, int many, char match)
            throws IndexOutOfBoundsException, IllegalArgumentException, UnsupportedOperationException {
        Panel board = panelOf(panel);
        Flitch source = flitchWithLeaves(flitch, first, many);
        if (!isOneOf(MATCHES, match) || !isIn(many, 1, MOST_LAID)) {
            throw new IllegalArgumentException();
        }
        if (board.face != null || !canCover(board, source, first, many)) {
            throw new UnsupportedOperationException();
        }
        board.face = new Packet(source, first, many);
        board.faceJump = jumpOf(source, first, many, match);
        board.left = 10 * source.thickness;
        faceArea += board.surface();
        layOn(board, board.face);
        return board.faceJump;
    }

    public int back(int panel, int flitch, int first, int many)
            throws IndexOutOfBoundsException, IllegalArgumentException, UnsupportedOperationException {
        Panel board = panelOf(panel);
        Flitch source = flitchWithLeaves(flitch, first, many);
        if (!isIn(many, 1, MOST_LAID)) {
            throw new IllegalArgumentException();
        }
        if (board.back != null || board.pressed || !canCover(board, source, first, many)) {
            throw new UnsupportedOperationException();
        }
        board.back = new Packet(source, first, many);
        backArea += board.surface();
        return layOn(board, board.back);
    }

    public int jump(int panel) throws IndexOutOfBoundsException, NoSuchElementException {
        Panel board = panelOf(panel);
        if (board.face == null) {
            throw new NoSuchElementException();
        }
        return board.faceJump;
    }

    public int bestFirst(int panel, int flitch, int many, char match)
            throws IndexOutOfBoundsException, IllegalArgumentException, NoSuchElementException {
        Panel board = panelOf(panel);
        Flitch source = flitchOf(flitch);
        if (!isOneOf(MATCHES, match) || !isIn(many, 1, MOST_LAID)) {
            throw new IllegalArgumentException();
        }
        int best = -1;
        int least = 0;
        for (int first = 0; first <= source.count - many; first++) {
            if (canCover(board, source, first, many)) {
                int found = jumpOf(source, first, many, match);
                if (best < 0 || found < least) {
                    best = first;
                    least = found;
                }
            }
        }
        if (best < 0) {
            throw new NoSuchElementException();
        }
        return best;
    }

    // Glue, air and finish

    public int press(int panel, int warmth, int minutes, int waited)
            throws IndexOutOfBoundsException, IllegalArgumentException, UnsupportedOperationException {
        Panel board = panelOf(panel);
        if (!isIn(warmth, 0, 60) || !isIn(minutes, 1, 99) || !isIn(waited, 0, 60)) {
            throw new IllegalArgumentException();
        }
        Packet skin = board.face;
        if (skin == null || board.pressed) {
            throw new UnsupportedOperationException();
        }
        board.pressed = true;
        board.pressedAir = airNow;
        if (waited > 4 + warmth / 3) {
            board.blisters += 2 * skin.many;
        }
        if (minutes < 20 + board.thickness / 4 - warmth / 3) {
            board.blisters += skin.many;
        }
        return board.blisters;
    }

    public int slit(int panel) throws IndexOutOfBoundsException, NoSuchElementException {
        Panel board = panelOf(panel);
        if (board.blisters <= 0) {
            throw new NoSuchElementException();
        }
        board.blisters--;
        return board.blisters;
    }

    public int air(int air) throws IllegalArgumentException {
        if (!isIn(air, LEAST_AIR, MOST_AIR)) {
            throw new IllegalArgumentException();
        }
        int before = airNow;
        airNow = air;
        return before;
    }

    public int cup(int panel, int air)
            throws IndexOutOfBoundsException, IllegalArgumentException, UnsupportedOperationException {
        Panel board = panelOf(panel);
        if (!isIn(air, LEAST_AIR, MOST_AIR)) {
            throw new IllegalArgumentException();
        }
        return pressedOnly(board).cupAt(air);
    }

    public boolean isFlat(int panel) throws IndexOutOfBoundsException, UnsupportedOperationException {
        return pressedOnly(panelOf(panel)).isFlatAt(airNow);
    }

    public int cupMonth(int panel)
            throws IndexOutOfBoundsException, UnsupportedOperationException, NoSuchElementException {
        Panel board = pressedOnly(panelOf(panel));
        for (int month = 0; month < MONTHS.length; month++) {
            if (!board.isFlatAt(within(airNow + MONTHS[month], LEAST_AIR, MOST_AIR))) {
                return month;
            }
        }
        throw new NoSuchElementException();
    }

    public int scrape(int panel, int hundredths)
            throws IndexOutOfBoundsException, IllegalArgumentException, UnsupportedOperationException {
        Panel board = panelOf(panel);
        if (!isIn(hundredths, 1, 99)) {
            throw new IllegalArgumentException();
        }
        if (!board.pressed || board.isWornThrough()) {
            throw new UnsupportedOperationException();
        }
        board.left = Math.max(0, board.left - hundredths);
        return board.left;
    }

    public boolean isThrough(int panel) throws IndexOutOfBoundsException {
        return panelOf(panel).isWornThrough();
    }

    public int pad(int panel, int charges)
            throws IndexOutOfBoundsException, IllegalArgumentException, UnsupportedOperationException {
        Panel board = panelOf(panel);
        if (!isIn(charges, 1, 9)) {
            throw new IllegalArgumentException();
        }
        pressedOnly(board).polish(charges);
        return board.shine;
    }

    public int rest() {
        int rested = 0;
        for (int i = 0; i < panels.size(); i++) {
            Panel board = panels.get(i);
            if (board.charges > 0) {
                rested++;
            }
            board.charges = 0;
        }
        return rested;
    }

    public int ghosts(int panel) throws IndexOutOfBoundsException {
        return panelOf(panel).ghostCount;
    }

    // Pictures

    public int picture() throws IllegalStateException {
        if (pictures.size() >= MOST_PICTURES) {
            throw new IllegalStateException();
        }
        pictures.add(new Picture());
        return pictures.size() - 1;
    }

    public int draw(int picture, int row, int column, int many, char field)
            throws IndexOutOfBoundsException, IllegalArgumentException, UnsupportedOperationException {
        Picture drawing = pictureOf(picture);
        boolean held = isPlace(row, column) && isIn(many, 1, SIDE) && column + many <= SIDE;
        if (!held || !isField(field)) {
            throw new IllegalArgumentException();
        }
        if (drawing.packet != null) {
            throw new UnsupportedOperationException();
        }
        drawing.paint(row, column, many, field - 'a');
        return drawing.pieceCount;
    }

    public char fieldAt(int picture, int row, int column) throws IndexOutOfBoundsException {
        return (char) ('a' + pictureWithPlace(picture, row, column).fieldOf(row * SIDE + column));
    }

    public int pieces(int picture) throws IndexOutOfBoundsException {
        return pictureOf(picture).pieceCount;
    }

    public int islands(int picture) throws IndexOutOfBoundsException {
        return pictureOf(picture).islandCount;
    }

    public int saw(int picture, int flitch, int first, int many)
            throws IndexOutOfBoundsException, IllegalArgumentException, UnsupportedOperationException {
        Picture drawing = pictureOf(picture);
        Flitch source = flitchWithLeaves(flitch, first, many);
        if (!isIn(many, LEAST_SAWN, MOST_LAID)) {
            throw new IllegalArgumentException();
        }
        if (drawing.packet != null || !source.isFree(first, many, LEAST_SAWN_WIDTH)) {
            throw new UnsupportedOperationException();
        }
        drawing.packet = new Packet(source, first, many);
        int copied = COPY_AREA * many;
        int rest = source.use(first, many) - copied;
        pictureArea += copied;
        wasteArea += rest;
        return rest;
    }

    public int leafAt(int picture, int copy, int row, int column)
            throws IndexOutOfBoundsException, NoSuchElementException {
        Picture drawing = pictureWithPlace(picture, row, column);
        Packet packet = packetWithCopy(drawing, copy);
        return packet.leafFor(drawing.fieldOf(row * SIDE + column), copy);
    }

    public int contrast(int picture, int copy) throws IndexOutOfBoundsException, NoSuchElementException {
        Picture drawing = pictureOf(picture);
        Packet packet = packetWithCopy(drawing, copy);
        int sum = 0;
        for (int place = 0; place < PLACES; place++) {
            sum += edgeContrast(drawing, packet, copy, place, neighbour(place, 0));
            sum += edgeContrast(drawing, packet, copy, place, neighbour(place, 1));
        }
        return sum;
    }

    public int sand(int picture, char field, int degrees, int seconds)
            throws IndexOutOfBoundsException, IllegalArgumentException, UnsupportedOperationException {
        Picture drawing = pictureOf(picture);
        if (!isField(field) || !isIn(degrees, 100, 300) || !isIn(seconds, 1, 60)) {
            throw new IllegalArgumentException();
        }
        if (drawing.packet == null) {
            throw new UnsupportedOperationException();
        }
        return drawing.darken(field - 'a', (degrees - 100) * seconds / 50);
    }

    public int burnt(int picture) throws IndexOutOfBoundsException {
        return pictureOf(picture).countBurnt();
    }

    public int gap(int kerf, int thickness, int bevel) throws IllegalArgumentException {
        boolean sized = isIn(kerf, 1, 99) && isIn(thickness, 5, 30);
        if (!sized || !isIn(bevel, 0, TANGENTS.length - 1)) {
            throw new IllegalArgumentException();
        }
        return Math.max(0, kerf - 10 * thickness * TANGENTS[bevel] / 1000);
    }

    // Offcuts, accounts and checks

    public int offcuts(int width) {
        int found = 0;
        for (int i = 0; i < offcutList.size(); i++) {
            if (offcutList.get(i).width == width) {
                found++;
            }
        }
        return found;
    }

    public int takeOffcut(int width, int height) throws IllegalArgumentException, NoSuchElementException {
        if (!isIn(width, 50, 4000) || !isIn(height, 1, 20)) {
            throw new IllegalArgumentException();
        }
        int best = -1;
        Offcut chosen = null;
        for (int i = 0; i < offcutList.size(); i++) {
            Offcut tried = offcutList.get(i);
            boolean enough = tried.width >= width && tried.height >= height;
            if (enough && (chosen == null || tried.isSmallerThan(chosen))) {
                best = i;
                chosen = tried;
            }
        }
        if (chosen == null) {
            throw new NoSuchElementException();
        }
        offcutList.remove(best);
        repairArea += chosen.surface();
        return chosen.width;
    }

    public int account(char kind) throws IllegalArgumentException {
        if (kind == 'f') {
            return faceArea;
        }
        if (kind == 'b') {
            return backArea;
        }
        if (kind == 'p') {
            return pictureArea;
        }
        if (kind == 'o') {
            return offcutArea();
        }
        if (kind == 'r') {
            return repairArea;
        }
        if (kind == 'w') {
            return wasteArea;
        }
        if (kind == 'l') {
            return unusedArea();
        }
        throw new IllegalArgumentException();
    }

    public int price(int panel) throws IndexOutOfBoundsException {
        return panelOf(panel).worth();
    }

    public float usedShare() throws ArithmeticException {
        int used = 0;
        int all = 0;
        for (int i = 0; i < flitches.size(); i++) {
            used += flitches.get(i).usedCount;
            all += flitches.get(i).count;
        }
        if (all == 0) {
            throw new ArithmeticException();
        }
        return (float) used / (float) all;
    }

    public double meanFigure() throws ArithmeticException {
        int sum = 0;
        int all = 0;
        for (int i = 0; i < flitches.size(); i++) {
            Flitch source = flitches.get(i);
            for (int leaf = 0; leaf < source.count; leaf++) {
                sum += source.figureOf(leaf);
            }
            all += source.count;
        }
        if (all == 0) {
            throw new ArithmeticException();
        }
        return (double) sum / (double) all;
    }

    public long checksum() {
        long sum = 7;
        for (int i = 0; i < flitches.size(); i++) {
            sum = 31 * sum + flitches.get(i).usedCount;
        }
        for (int i = 0; i < panels.size(); i++) {
            sum = 31 * sum + panels.get(i).worth();
        }
        for (int i = 0; i < pictures.size(); i++) {
            sum = 31 * sum + pictures.get(i).pieceCount;
        }
        return 31 * sum + wasteArea;
    }

    public boolean isTrue() {
        return areasAgree() && usesAgree() && placesAgree();
    }

    // Looking up what a call names

    private Log logOf(int number) {
        if (number < 0 || number >= logs.size()) {
            throw new IndexOutOfBoundsException();
        }
        return logs.get(number);
    }

    private Flitch flitchOf(int number) {
        if (number < 0 || number >= flitches.size()) {
            throw new IndexOutOfBoundsException();
        }
        return flitches.get(number);
    }

    private Flitch flitchWithLeaf(int number, int leaf) {
        return flitchWithLeaves(number, leaf, 1);
    }

    /** A number of leaves below 1 names the first leaf alone here: that it is wrong is told later. */
    private Flitch flitchWithLeaves(int number, int first, int many) {
        Flitch source = flitchOf(number);
        if (first < 0 || first >= source.count || many > source.count - first) {
            throw new IndexOutOfBoundsException();
        }
        return source;
    }

    private Panel panelOf(int number) {
        if (number < 0 || number >= panels.size()) {
            throw new IndexOutOfBoundsException();
        }
        return panels.get(number);
    }

    private static Panel pressedOnly(Panel board) {
        if (!board.pressed) {
            throw new UnsupportedOperationException();
        }
        return board;
    }

    private Picture pictureOf(int number) {
        if (number < 0 || number >= pictures.size()) {
            throw new IndexOutOfBoundsException();
        }
        return pictures.get(number);
    }

    private Picture pictureWithPlace(int number, int row, int column) {
        Picture drawing = pictureOf(number);
        if (!isPlace(row, column)) {
            throw new IndexOutOfBoundsException();
        }
        return drawing;
    }

    private static Packet packetWithCopy(Picture drawing, int copy) {
        Packet packet = drawing.packet;
        if (packet == null || copy < 0 || copy >= packet.many) {
            throw new NoSuchElementException();
        }
        return packet;
    }

    // Small sums

    private static boolean isIn(int number, int least, int most) {
        return number >= least && number <= most;
    }

    private static int within(int number, int least, int most) {
        return Math.max(least, Math.min(most, number));
    }

    private static boolean isOneOf(String letters, char letter) {
        return letters.indexOf(letter) >= 0;
    }

    private static boolean isField(char letter) {
        return isIn(letter - 'a', 0, FIELDS - 1);
    }

    private static boolean isPlace(int row, int column) {
        return isIn(row, 0, SIDE - 1) && isIn(column, 0, SIDE - 1);
    }

    /** The place beside one at its right, below it, at its left or above it; -1 beyond the edge. */
    private static int neighbour(int place, int side) {
        int row = place / SIDE;
        int column = place % SIDE;
        switch (side) {
            case 0:
                return column < SIDE - 1 ? place + 1 : -1;
            case 1:
                return row < SIDE - 1 ? place + SIDE : -1;
            case 2:
                return column > 0 ? place - 1 : -1;
            default:
                return row > 0 ? place - SIDE : -1;
        }
    }

    /** The width of each strip of a panel that lies under so many leaves. */
    private static int stripOf(Panel board, int many) {
        return many <= 0 ? board.width : (board.width + many - 1) / many;
    }

    private static boolean canCover(Panel board, Flitch source, int first, int many) {
        boolean longEnough = source.length >= board.height;
        return longEnough && source.isFree(first, many, stripOf(board, many));
    }

    private static int jumpOf(Flitch source, int first, int many, char match) {
        int sum = match == 'b' && many > 1 && many % 2 == 1 ? 4 : 0;
        int eachPair = match == 's' ? 5 : match == 'r' ? 3 : 0;
        for (int leaf = first + 1; leaf < first + many; leaf++) {
            sum += Math.abs(source.figureOf(leaf) - source.figureOf(leaf - 1)) + eachPair;
        }
        return sum;
    }

    private static int edgeContrast(Picture drawing, Packet packet, int copy, int place, int other) {
        if (other < 0 || drawing.fieldOf(place) == drawing.fieldOf(other)) {
            return 0;
        }
        int here = packet.flitch.figureOf(packet.leafFor(drawing.fieldOf(place), copy));
        int there = packet.flitch.figureOf(packet.leafFor(drawing.fieldOf(other), copy));
        return Math.abs(here - there);
    }

    /** Uses the leaves, keeps what is wide enough beside the strips, and answers the waste. */
    private int layOn(Panel board, Packet packet) {
        int strip = stripOf(board, packet.many);
        int rest = packet.flitch.use(packet.first, packet.many) - board.surface();
        for (int i = 0; i < packet.many; i++) {
            int beside = packet.flitch.widthOf(packet.first + i) - strip;
            if (beside >= LEAST_OFFCUT) {
                Offcut kept = new Offcut(beside, board.height);
                offcutList.add(kept);
                rest -= kept.surface();
            }
        }
        wasteArea += rest;
        return rest;
    }

    private int offcutArea() {
        int sum = 0;
        for (int i = 0; i < offcutList.size(); i++) {
            sum += offcutList.get(i).surface();
        }
        return sum;
    }

    private int unusedArea() {
        int sum = 0;
        for (int i = 0; i < flitches.size(); i++) {
            Flitch source = flitches.get(i);
            for (int leaf = 0; leaf < source.count; leaf++) {
                sum += source.isTaken(leaf) ? 0 : source.areaOf(leaf);
            }
        }
        return sum;
    }

    // What isTrue checks

    private boolean areasAgree() {
        int all = 0;
        for (int i = 0; i < flitches.size(); i++) {
            Flitch source = flitches.get(i);
            for (int leaf = 0; leaf < source.count; leaf++) {
                all += source.areaOf(leaf);
            }
        }
        int laid = faceArea + backArea + pictureArea;
        return all == laid + offcutArea() + repairArea + wasteArea + unusedArea();
    }

    private boolean usesAgree() {
        for (int i = 0; i < flitches.size(); i++) {
            Flitch source = flitches.get(i);
            for (int leaf = 0; leaf < source.count; leaf++) {
                if (countUses(source, leaf) != (source.isTaken(leaf) ? 1 : 0)) {
                    return false;
                }
            }
        }
        return true;
    }

    private int countUses(Flitch source, int leaf) {
        int uses = 0;
        for (int i = 0; i < panels.size(); i++) {
            Panel board = panels.get(i);
            uses += usesIn(board.face, source, leaf) + usesIn(board.back, source, leaf);
        }
        for (int i = 0; i < pictures.size(); i++) {
            uses += usesIn(pictures.get(i).packet, source, leaf);
        }
        return uses;
    }

    private static int usesIn(Packet packet, Flitch source, int leaf) {
        return packet != null && packet.holds(source, leaf) ? 1 : 0;
    }

    private boolean placesAgree() {
        for (int i = 0; i < pictures.size(); i++) {
            if (pictures.get(i).placeCount != PLACES) {
                return false;
            }
        }
        return true;
    }

    /** A tree as it was bought. */
    private static final class Log {
        final char wood;
        final int diameter;
        final int length;
        final char form;
        boolean sliced;

        Log(char wood, int diameter, int length, char form) {
            this.wood = wood;
            this.diameter = diameter;
            this.length = length;
            this.form = form;
        }

        int radius() {
            return diameter / 2;
        }

        int swelling() {
            return wood == 'w' ? 6 : wood == 'm' ? 8 : wood == 'o' ? 9 : 4;
        }
    }

    /** The leaves of one log, their widths and figures told once for all. */
    private static final class Flitch {
        final int thickness;
        final int length;
        final int swelling;
        final int count;
        final int[] widths = new int[MOST_LEAVES];
        final int[] figures = new int[MOST_LEAVES];
        final boolean[] taken = new boolean[MOST_LEAVES];
        int usedCount;

        Flitch(Log log, char way, int thickness) {
            this.thickness = thickness;
            this.length = log.length;
            this.swelling = log.swelling();
            this.count = countLeaves(log.radius(), way, thickness);
            for (int leaf = 0; leaf < MOST_LEAVES; leaf++) {
                widths[leaf] = cutWidth(log, way, leaf * thickness / 10);
                figures[leaf] = within(formFigure(log.form) + wayFigure(log, way, leaf), 0, MOST_OF_ALL);
            }
        }

        private static int countLeaves(int radius, char way, int thickness) {
            if (thickness <= 0) {
                return 0;
            }
            int found = way == 'f' ? 10 * (radius / 2) / thickness + 1 : 10 * radius / thickness;
            return within(found, 0, MOST_LEAVES);
        }

        private static int cutWidth(Log log, char way, int depth) {
            int radius = log.radius();
            if (way == 'f') {
                int distance = radius / 2 - depth;
                return 2 * rootOf(radius * radius - distance * distance);
            }
            if (way == 's') {
                return 3 * log.diameter - 6 * depth;
            }
            return way == 'q' ? radius - 20 : (radius - 20) * 4 / 5;
        }

        private static int rootOf(int square) {
            int root = 0;
            for (int step = 512; step > 0; step /= 2) {
                if ((root + step) * (root + step) <= square) {
                    root += step;
                }
            }
            return root;
        }

        private static int formFigure(char form) {
            return form == 'p' ? 10 : form == 'c' ? 40 : 60;
        }

        private static int wayFigure(Log log, char way, int leaf) {
            if (way == 'f') {
                return 15 - leaf % 8;
            }
            if (way == 'q') {
                return (log.wood == 'o' ? 30 : 10) - Math.abs(leaf - 12) / 2;
            }
            if (way == 'r') {
                return 5;
            }
            return 20 + (log.form == 'b' ? 30 : 0) - leaf / 2;
        }

        private boolean hasLeaf(int leaf) {
            return leaf >= 0 && leaf < count && leaf < MOST_LEAVES;
        }

        int widthOf(int leaf) {
            return hasLeaf(leaf) ? widths[leaf] : 0;
        }

        int areaOf(int leaf) {
            return widthOf(leaf) * length;
        }

        int figureOf(int leaf) {
            return hasLeaf(leaf) ? figures[leaf] : 0;
        }

        boolean isTaken(int leaf) {
            return hasLeaf(leaf) && taken[leaf];
        }

        /** Whether all these leaves are there, unused and so wide at least. */
        boolean isFree(int first, int many, int least) {
            for (int i = 0; i < many; i++) {
                int leaf = first + i;
                if (!hasLeaf(leaf) || taken[leaf] || widths[leaf] < least) {
                    return false;
                }
            }
            return true;
        }

        /** Uses these leaves and answers their area. */
        int use(int first, int many) {
            int sum = 0;
            for (int i = 0; i < many; i++) {
                int leaf = first + i;
                if (hasLeaf(leaf)) {
                    taken[leaf] = true;
                    usedCount++;
                    sum += areaOf(leaf);
                }
            }
            return sum;
        }
    }

    /** Leaves of one flitch, one behind the other: a face, a back or what a picture is sawn from. */
    private static final class Packet {
        final Flitch flitch;
        final int first;
        final int many;

        Packet(Flitch flitch, int first, int many) {
            this.flitch = flitch;
            this.first = first;
            this.many = many;
        }

        boolean holds(Flitch source, int leaf) {
            return flitch == source && leaf >= first && leaf < first + many;
        }

        int leafFor(int field, int copy) {
            return many <= 0 ? first : first + (field + copy) % many;
        }

        int pullBy(int change) {
            return flitch.swelling * flitch.thickness * change;
        }
    }

    /** A core with what was laid on it. */
    private static final class Panel {
        final int width;
        final int height;
        final char core;
        final int thickness;
        Packet face;
        Packet back;
        int faceJump;
        boolean pressed;
        int pressedAir;
        int blisters;
        int left;
        int shine;
        int charges;
        int ghostCount;

        Panel(int width, int height, char core, int thickness) {
            this.width = width;
            this.height = height;
            this.core = core;
            this.thickness = thickness;
        }

        int surface() {
            return width * height;
        }

        int cupAt(int air) {
            int change = air - pressedAir;
            int pull = pullOf(face, change) - pullOf(back, change);
            int stiffness = thickness * (core == 's' ? 1 : core == 'c' ? 3 : 2);
            return stiffness <= 0 ? 0 : 10 * pull / stiffness;
        }

        private static int pullOf(Packet skin, int change) {
            return skin == null ? 0 : skin.pullBy(change);
        }

        boolean isFlatAt(int air) {
            return isIn(cupAt(air), -3, 3);
        }

        boolean isWornThrough() {
            return face != null && left <= THROUGH;
        }

        /** Charges above the third one since the last rest leave ghosts, not shine. */
        void polish(int more) {
            int shining = Math.min(more, Math.max(0, CHARGES_A_REST - charges));
            shine = Math.min(MOST_OF_ALL, shine + 2 * shining);
            ghostCount += more - shining;
            charges += more;
        }

        int worth() {
            int sum = pressed ? 5 : 0;
            if (face != null) {
                sum += 2 * face.many + surface() / 10;
            }
            if (back != null) {
                sum += 2 * back.many;
            }
            return sum + shine - 3 * (blisters + ghostCount);
        }
    }

    /** What was left beside a strip. */
    private static final class Offcut {
        final int width;
        final int height;

        Offcut(int width, int height) {
            this.width = width;
            this.height = height;
        }

        int surface() {
            return width * height;
        }

        boolean isSmallerThan(Offcut other) {
            return width < other.width || width == other.width && height < other.height;
        }
    }

    /** A drawing of fields, by numbers from 0 for 'a'; its pieces are counted anew when it is drawn on. */
    private static final class Picture {
        final int[] fields = new int[PLACES];
        final int[] shades = new int[FIELDS];
        final boolean[] seen = new boolean[PLACES];
        final int[] queue = new int[PLACES];
        Packet packet;
        int pieceCount = 1;
        int islandCount;
        int placeCount = PLACES;

        int fieldOf(int place) {
            return place >= 0 && place < PLACES ? fields[place] : 0;
        }

        void paint(int row, int column, int many, int field) {
            for (int i = 0; i < many; i++) {
                int place = row * SIDE + column + i;
                if (place >= 0 && place < PLACES) {
                    fields[place] = field;
                }
            }
            countPieces();
        }

        private void countPieces() {
            for (int place = 0; place < PLACES; place++) {
                seen[place] = false;
            }
            pieceCount = 0;
            islandCount = 0;
            placeCount = 0;
            for (int place = 0; place < PLACES; place++) {
                if (!seen[place]) {
                    pieceCount++;
                    int found = gatherPiece(place);
                    placeCount += found;
                    islandCount += isIsland(found) ? 1 : 0;
                }
            }
        }

        /** Puts the places of one piece into the queue and answers how many these are. */
        private int gatherPiece(int start) {
            int found = enqueue(start, 0);
            for (int at = 0; at < found && at < PLACES; at++) {
                for (int side = 0; side < 4; side++) {
                    int other = neighbour(queue[at], side);
                    if (other >= 0 && fieldOf(other) == fieldOf(start)) {
                        found = enqueue(other, found);
                    }
                }
            }
            return found;
        }

        private int enqueue(int place, int found) {
            boolean fits = place >= 0 && place < PLACES && found >= 0 && found < PLACES;
            if (!fits || seen[place]) {
                return found;
            }
            seen[place] = true;
            queue[found] = place;
            return found + 1;
        }

        /** Whether the piece that stands in the queue lies off the edge, in one other field. */
        private boolean isIsland(int found) {
            int around = -1;
            for (int at = 0; at < found && at < PLACES; at++) {
                int own = fieldOf(queue[at]);
                for (int side = 0; side < 4; side++) {
                    int other = neighbour(queue[at], side);
                    if (other < 0) {
                        return false;
                    }
                    int field = fieldOf(other);
                    if (field != own && around >= 0 && field != around) {
                        return false;
                    }
                    around = field != own ? field : around;
                }
            }
            return true;
        }

        int darken(int field, int more) {
            if (field < 0 || field >= FIELDS) {
                return 0;
            }
            shades[field] = Math.min(MOST_OF_ALL, shades[field] + more);
            return shades[field];
        }

        int countBurnt() {
            int found = 0;
            for (int field = 0; field < FIELDS; field++) {
                if (shades[field] > BURNT) {
                    found++;
                }
            }
            return found;
        }
    }
}
