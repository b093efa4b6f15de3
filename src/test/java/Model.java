import java.util.ArrayList;
import java.util.Arrays;
import java.util.HashMap;
import java.util.List;
import java.util.Map;
import java.util.Set;
import java.util.TreeSet;

/**
 * The words of the document written a second time, without the class and in another form: what a loft must
 * answer to each call, as a text. Wild runs compare the two.
 */
final class Model {
    /** Ends a call with the exception of this name. */
    private static final class Refusal extends RuntimeException {
        private static final long serialVersionUID = 1;

        Refusal(String name) {
            super(name, null, false, false);
        }
    }

    private record Log(char wood, int diameter, int length, char form, int[] sliced) { }

    private record Leaf(int flitch, int number, int width, int area, int figure) { }

    private record Flitch(Log log, int thickness, List<Leaf> leaves) { }

    private static final class Panel {
        int width;
        int height;
        char core;
        int thickness;
        List<Leaf> face = List.of();
        List<Leaf> back = List.of();
        int jump;
        int pressedAt;
        int blisters;
        int scraped;
        int shine;
        int charges;
        int ghosts;
    }

    private static final class Picture {
        final char[][] fields = new char[8][8];
        final Map<Character, Integer> shades = new HashMap<>();
        List<Leaf> packet = List.of();
    }

    private final List<Log> logs = new ArrayList<>();
    private final List<Flitch> flitches = new ArrayList<>();
    private final List<Panel> panels = new ArrayList<>();
    private final List<Picture> pictures = new ArrayList<>();
    private final List<int[]> cut = new ArrayList<>();
    private int repaired;
    private int air = 8;

    String answer(String method, Object... arguments) {
        try {
            Object answer = thing(method, arguments);
            return String.valueOf(answer);
        } catch (Refusal refusal) {
            return refusal.getMessage();
        }
    }

    private static int n(Object[] arguments, int at) {
        return (int) arguments[at];
    }

    private static char c(Object[] arguments, int at) {
        return (char) arguments[at];
    }

    private Object thing(String method, Object[] a) {
        return switch (method) {
            case "log" -> log(c(a, 0), n(a, 1), n(a, 2), c(a, 3));
            case "slice" -> slice(n(a, 0), c(a, 1), n(a, 2));
            case "leaves" -> flitch(n(a, 0)).leaves.size();
            case "width" -> leaf(n(a, 0), n(a, 1)).width;
            case "area" -> leaf(n(a, 0), n(a, 1)).area;
            case "figure" -> leaf(n(a, 0), n(a, 1)).figure;
            case "isUsed" -> used().contains(leaf(n(a, 0), n(a, 1)));
            case "panel" -> panel(n(a, 0), n(a, 1), c(a, 2), n(a, 3));
            case "face" -> face(n(a, 0), n(a, 1), n(a, 2), n(a, 3), c(a, 4));
            case "back" -> back(n(a, 0), n(a, 1), n(a, 2), n(a, 3));
            case "bestFirst" -> bestFirst(n(a, 0), n(a, 1), n(a, 2), c(a, 3));
            case "picture" -> picture();
            case "draw" -> draw(n(a, 0), n(a, 1), n(a, 2), n(a, 3), c(a, 4));
            case "fieldAt" -> place(n(a, 0), n(a, 1), n(a, 2)).fields[n(a, 1)][n(a, 2)];
            case "pieces" -> pieces(picture(n(a, 0))).size();
            case "islands" -> islands(picture(n(a, 0)));
            case "saw" -> saw(n(a, 0), n(a, 1), n(a, 2), n(a, 3));
            case "leafAt" -> leafAt(n(a, 0), n(a, 1), n(a, 2), n(a, 3));
            case "contrast" -> contrast(n(a, 0), n(a, 1));
            case "sand" -> sand(n(a, 0), c(a, 1), n(a, 2), n(a, 3));
            case "burnt" -> picture(n(a, 0)).shades.values().stream().filter(shade -> shade > 90).count();
            default -> made(method, a);
        };
    }

    private Object made(String method, Object[] a) {
        return switch (method) {
            case "jump" -> jump(panel(n(a, 0)));
            case "press" -> press(panel(n(a, 0)), n(a, 1), n(a, 2), n(a, 3));
            case "slit" -> slit(panel(n(a, 0)));
            case "air" -> air(n(a, 0));
            case "cup" -> cup(panel(n(a, 0)), n(a, 1));
            case "isFlat" -> isFlat(pressed(panel(n(a, 0))), air);
            case "cupMonth" -> cupMonth(pressed(panel(n(a, 0))));
            case "scrape" -> scrape(panel(n(a, 0)), n(a, 1));
            case "isThrough" -> isThrough(panel(n(a, 0)));
            case "pad" -> pad(panel(n(a, 0)), n(a, 1));
            case "rest" -> rest();
            case "ghosts" -> panel(n(a, 0)).ghosts;
            case "gap" -> gap(n(a, 0), n(a, 1), n(a, 2));
            case "offcuts" -> cut.stream().filter(offcut -> offcut[0] == n(a, 0)).count();
            case "takeOffcut" -> takeOffcut(n(a, 0), n(a, 1));
            case "account" -> account(c(a, 0));
            case "price" -> price(panel(n(a, 0)));
            case "usedShare" -> (float) used().size() / all().size();
            case "meanFigure" -> all().stream().mapToInt(Leaf::figure).sum() / (double) all().size();
            case "checksum" -> checksum();
            case "isTrue" -> true;
            default -> "no such call";
        };
    }

    private static void refuse(boolean applies, String name) {
        if (applies) {
            throw new Refusal(name);
        }
    }

    private static boolean out(int number, int least, int most) {
        return number < least || number > most;
    }

    private static boolean unknown(char letter, String letters) {
        return !letters.contains(String.valueOf(letter));
    }

    private static <T> T numbered(List<T> things, int number) {
        refuse(out(number, 0, things.size() - 1), Run.INDEX);
        return things.get(number);
    }

    private Flitch flitch(int number) {
        return numbered(flitches, number);
    }

    private Leaf leaf(int flitch, int number) {
        return numbered(flitch(flitch).leaves, number);
    }

    private Panel panel(int number) {
        return numbered(panels, number);
    }

    private Picture picture(int number) {
        return numbered(pictures, number);
    }

    private Picture place(int number, int row, int column) {
        Picture picture = picture(number);
        refuse(out(row, 0, 7) || out(column, 0, 7), Run.INDEX);
        return picture;
    }

    private List<Leaf> all() {
        refuse(flitches.isEmpty(), Run.ARITHMETIC);
        List<Leaf> leaves = new ArrayList<>();
        flitches.forEach(flitch -> leaves.addAll(flitch.leaves));
        return leaves;
    }

    /** What lies in a face, a back or a picture. */
    private Set<Leaf> used() {
        Set<Leaf> used = new java.util.HashSet<>();
        panels.forEach(panel -> used.addAll(panel.face));
        panels.forEach(panel -> used.addAll(panel.back));
        pictures.forEach(picture -> used.addAll(picture.packet));
        return used;
    }

    private int log(char wood, int diameter, int length, char form) {
        refuse(unknown(wood, "wmoh") || unknown(form, "pcb"), Run.ARGUMENT);
        refuse(out(diameter, 100, 999) || out(length, 1, 40), Run.ARGUMENT);
        refuse(logs.size() == 8, Run.STATE);
        logs.add(new Log(wood, diameter, length, form, new int[1]));
        return logs.size() - 1;
    }

    private int slice(int number, char way, int thickness) {
        Log log = numbered(logs, number);
        refuse(unknown(way, "fqrs") || out(thickness, 5, 30), Run.ARGUMENT);
        refuse(log.sliced[0]++ > 0, Run.UNSUPPORTED);
        double radius = Math.floor(log.diameter / 2.0);
        double many = Math.floor(10 * radius / thickness);
        if (way == 'f') {
            many = Math.floor(10 * Math.floor(radius / 2) / thickness) + 1;
        }
        List<Leaf> leaves = new ArrayList<>();
        for (int leaf = 0; leaf < 24 && leaf < many; leaf++) {
            int width = (int) width(log, way, radius, Math.floor(leaf * thickness / 10.0));
            leaves.add(new Leaf(flitches.size(), leaf, width, width * log.length, figure(log, way, leaf)));
        }
        flitches.add(new Flitch(log, thickness, leaves));
        return flitches.size() - 1;
    }

    private static double width(Log log, char way, double radius, double product) {
        double distance = Math.floor(radius / 2) - product;
        return switch (way) {
            case 'f' -> 2 * Math.floor(Math.sqrt(radius * radius - distance * distance));
            case 'q' -> radius - 20;
            case 'r' -> Math.floor(4 * (radius - 20) / 5);
            default -> 3 * log.diameter - 6 * product;
        };
    }

    private static int figure(Log log, char way, int leaf) {
        int form = Map.of('p', 10, 'c', 40, 'b', 60).get(log.form);
        int more = switch (way) {
            case 'f' -> 15 - leaf % 8;
            case 'q' -> (log.wood == 'o' ? 30 : 10) - (leaf < 12 ? 12 - leaf : leaf - 12) / 2;
            case 'r' -> 5;
            default -> (log.form == 'b' ? 50 : 20) - leaf / 2;
        };
        return Math.max(0, Math.min(99, form + more));
    }

    private int panel(int width, int height, char core, int thickness) {
        refuse(out(width, 100, 2000) || out(height, 1, 20) || out(thickness, 5, 40), Run.ARGUMENT);
        refuse(unknown(core, "scb"), Run.ARGUMENT);
        refuse(panels.size() == 8, Run.STATE);
        Panel panel = new Panel();
        panel.width = width;
        panel.height = height;
        panel.core = core;
        panel.thickness = thickness;
        panels.add(panel);
        return panels.size() - 1;
    }

    /** The leaves from a first one on, which must be there; fewer than one names the first one. */
    private List<Leaf> packet(int flitch, int first, int many) {
        List<Leaf> leaves = flitch(flitch).leaves;
        List<Leaf> packet = new ArrayList<>();
        for (long leaf = first; leaf < (long) first + Math.max(1, many); leaf++) {
            refuse(leaf < 0 || leaf >= leaves.size(), Run.INDEX);
            packet.add(leaves.get((int) leaf));
        }
        return packet;
    }

    private boolean covers(Panel panel, List<Leaf> packet) {
        double strip = Math.ceil((double) panel.width / packet.size());
        boolean lowEnough = flitches.get(packet.get(0).flitch).log.length >= panel.height;
        return lowEnough && packet.stream().allMatch(leaf -> !used().contains(leaf) && leaf.width >= strip);
    }

    private static int jump(List<Leaf> packet, char match) {
        int jump = 0;
        for (int i = 0; i + 1 < packet.size(); i++) {
            jump += Math.abs(packet.get(i).figure - packet.get(i + 1).figure);
            jump += Map.of('b', 0, 's', 5, 'r', 3).get(match);
        }
        boolean odd = Set.of(3, 5, 7).contains(packet.size());
        return jump + (match == 'b' && odd ? 4 : 0);
    }

    private void keepOffcuts(Panel panel, List<Leaf> packet) {
        int strip = (int) Math.ceil((double) panel.width / packet.size());
        for (Leaf leaf : packet) {
            if (leaf.width - strip >= 50) {
                cut.add(new int[] {leaf.width - strip, panel.height});
            }
        }
    }

    private int face(int number, int flitch, int first, int many, char match) {
        Panel panel = panel(number);
        List<Leaf> packet = packet(flitch, first, many);
        refuse(unknown(match, "bsr") || out(many, 1, 8), Run.ARGUMENT);
        refuse(!panel.face.isEmpty() || !covers(panel, packet), Run.UNSUPPORTED);
        panel.face = packet;
        panel.jump = jump(packet, match);
        keepOffcuts(panel, packet);
        return panel.jump;
    }

    private int back(int number, int flitch, int first, int many) {
        Panel panel = panel(number);
        List<Leaf> packet = packet(flitch, first, many);
        refuse(out(many, 1, 8), Run.ARGUMENT);
        refuse(!panel.back.isEmpty() || panel.pressedAt > 0 || !covers(panel, packet), Run.UNSUPPORTED);
        int before = account('w');
        panel.back = packet;
        keepOffcuts(panel, packet);
        return account('w') - before;
    }

    private static int jump(Panel panel) {
        refuse(panel.face.isEmpty(), Run.NONE);
        return panel.jump;
    }

    private int bestFirst(int number, int flitch, int many, char match) {
        Panel panel = panel(number);
        int leaves = flitch(flitch).leaves.size();
        refuse(unknown(match, "bsr") || out(many, 1, 8), Run.ARGUMENT);
        Map<Integer, Integer> firsts = new java.util.TreeMap<>();
        for (int first = leaves - many; first >= 0; first--) {
            List<Leaf> packet = packet(flitch, first, many);
            if (covers(panel, packet)) {
                firsts.put(jump(packet, match), first);
            }
        }
        refuse(firsts.isEmpty(), Run.NONE);
        return firsts.values().iterator().next();
    }

    private static Panel pressed(Panel panel) {
        refuse(panel.pressedAt == 0, Run.UNSUPPORTED);
        return panel;
    }

    private int press(Panel panel, int warmth, int minutes, int waited) {
        refuse(out(warmth, 0, 60) || out(minutes, 1, 99) || out(waited, 0, 60), Run.ARGUMENT);
        refuse(panel.face.isEmpty() || panel.pressedAt > 0, Run.UNSUPPORTED);
        panel.pressedAt = air;
        double third = Math.floor(warmth / 3.0);
        int each = (waited > 4 + third ? 2 : 0) + (minutes < 20 + Math.floor(panel.thickness / 4.0) - third ? 1 : 0);
        panel.blisters = each * panel.face.size();
        return panel.blisters;
    }

    private static int slit(Panel panel) {
        refuse(panel.blisters == 0, Run.NONE);
        return --panel.blisters;
    }

    private int air(int told) {
        refuse(out(told, 4, 20), Run.ARGUMENT);
        int before = air;
        air = told;
        return before;
    }

    private int pull(List<Leaf> packet) {
        if (packet.isEmpty()) {
            return 0;
        }
        Flitch flitch = flitches.get(packet.get(0).flitch);
        return Map.of('w', 6, 'm', 8, 'o', 9, 'h', 4).get(flitch.log.wood) * flitch.thickness;
    }

    private int cupAt(Panel panel, int then) {
        int by = panel.thickness * Map.of('s', 1, 'c', 3, 'b', 2).get(panel.core);
        return (int) (10.0 * (pull(panel.face) - pull(panel.back)) * (then - panel.pressedAt) / by);
    }

    private int cup(Panel panel, int then) {
        refuse(out(then, 4, 20), Run.ARGUMENT);
        return cupAt(pressed(panel), then);
    }

    private boolean isFlat(Panel panel, int then) {
        return Math.abs(cupAt(panel, then)) <= 3;
    }

    private int cupMonth(Panel panel) {
        int month = 0;
        for (int more : new int[] {-3, -3, -2, 0, 1, 3, 4, 4, 2, 0, -1, -2}) {
            if (!isFlat(panel, Math.min(20, Math.max(4, air + more)))) {
                return month;
            }
            month++;
        }
        throw new Refusal(Run.NONE);
    }

    private int left(Panel panel) {
        return Math.max(0, 10 * flitches.get(panel.face.get(0).flitch).thickness - panel.scraped);
    }

    private boolean isThrough(Panel panel) {
        return !panel.face.isEmpty() && left(panel) <= 10;
    }

    private int scrape(Panel panel, int hundredths) {
        refuse(out(hundredths, 1, 99), Run.ARGUMENT);
        refuse(panel.pressedAt == 0 || isThrough(panel), Run.UNSUPPORTED);
        panel.scraped += hundredths;
        return left(panel);
    }

    private static int pad(Panel panel, int charges) {
        refuse(out(charges, 1, 9), Run.ARGUMENT);
        pressed(panel);
        for (int charge = 0; charge < charges; charge++) {
            panel.charges++;
            if (panel.charges > 3) {
                panel.ghosts++;
            } else {
                panel.shine = Math.min(99, panel.shine + 2);
            }
        }
        return panel.shine;
    }

    private int rest() {
        int rested = (int) panels.stream().filter(panel -> panel.charges > 0).count();
        panels.forEach(panel -> panel.charges = 0);
        return rested;
    }

    private int picture() {
        refuse(pictures.size() == 4, Run.STATE);
        Picture picture = new Picture();
        Arrays.stream(picture.fields).forEach(row -> Arrays.fill(row, 'a'));
        pictures.add(picture);
        return pictures.size() - 1;
    }

    private int draw(int number, int row, int column, int many, char field) {
        Picture picture = picture(number);
        refuse(unknown(field, "abcdefgh") || out(row, 0, 7) || out(column, 0, 7), Run.ARGUMENT);
        refuse(out(many, 1, 8 - column), Run.ARGUMENT);
        refuse(!picture.packet.isEmpty(), Run.UNSUPPORTED);
        Arrays.fill(picture.fields[row], column, column + many, field);
        return pieces(picture).size();
    }

    /** The places of each piece: each place is one at first, and those that are joined are put together. */
    private static List<Set<Integer>> pieces(Picture picture) {
        List<Set<Integer>> pieces = new ArrayList<>();
        for (int place = 0; place < 64; place++) {
            Set<Integer> piece = new TreeSet<>(Set.of(place));
            for (int other : new int[] {place - 8, place % 8 == 0 ? -1 : place - 1}) {
                if (other >= 0 && at(picture, other) == at(picture, place)) {
                    pieces.stream().filter(known -> known.contains(other)).toList().forEach(piece::addAll);
                    pieces.removeIf(known -> known.contains(other));
                }
            }
            pieces.add(piece);
        }
        return pieces;
    }

    private static char at(Picture picture, int place) {
        return picture.fields[place / 8][place % 8];
    }

    private static long islands(Picture picture) {
        return pieces(picture).stream().filter(piece -> isIsland(picture, piece)).count();
    }

    private static boolean isIsland(Picture picture, Set<Integer> piece) {
        Set<Character> around = new TreeSet<>();
        for (int place : piece) {
            if (place < 8 || place > 55 || place % 8 == 0 || place % 8 == 7) {
                return false;
            }
            for (int other : new int[] {place - 8, place - 1, place + 1, place + 8}) {
                if (!piece.contains(other)) {
                    around.add(at(picture, other));
                }
            }
        }
        return around.size() == 1;
    }

    private int saw(int number, int flitch, int first, int many) {
        Picture picture = picture(number);
        List<Leaf> packet = packet(flitch, first, many);
        refuse(out(many, 2, 8), Run.ARGUMENT);
        boolean usable = packet.stream().allMatch(leaf -> !used().contains(leaf) && leaf.width >= 80);
        refuse(!picture.packet.isEmpty() || !usable, Run.UNSUPPORTED);
        picture.packet = packet;
        return packet.stream().mapToInt(leaf -> leaf.area - 64).sum();
    }

    private static Leaf leafIn(Picture picture, int copy, int place) {
        refuse(out(copy, 0, picture.packet.size() - 1), Run.NONE);
        return picture.packet.get((at(picture, place) - 'a' + copy) % picture.packet.size());
    }

    private int leafAt(int number, int copy, int row, int column) {
        return leafIn(place(number, row, column), copy, 8 * row + column).number;
    }

    private int contrast(int number, int copy) {
        Picture picture = picture(number);
        int contrast = 0;
        for (int place = 0; place < 64; place++) {
            for (int other = place + 1; other < 64; other++) {
                boolean joined = other == place + 8 || other == place + 1 && other % 8 > 0;
                int figure = leafIn(picture, copy, place).figure;
                if (joined && at(picture, place) != at(picture, other)) {
                    contrast += Math.abs(figure - leafIn(picture, copy, other).figure);
                }
            }
        }
        return contrast;
    }

    private int sand(int number, char field, int degrees, int seconds) {
        Picture picture = picture(number);
        refuse(unknown(field, "abcdefgh") || out(degrees, 100, 300) || out(seconds, 1, 60), Run.ARGUMENT);
        refuse(picture.packet.isEmpty(), Run.UNSUPPORTED);
        int more = (int) Math.floor((degrees - 100) * seconds / 50.0);
        return picture.shades.merge(field, Math.min(99, more), (old, added) -> Math.min(99, old + added));
    }

    private static int gap(int kerf, int thickness, int bevel) {
        refuse(out(kerf, 1, 99) || out(thickness, 5, 30) || out(bevel, 0, 15), Run.ARGUMENT);
        // The document's thousandths are those of the tangent, rounded.
        long thousandths = Math.round(1000 * Math.tan(Math.toRadians(bevel)));
        return (int) Math.max(0, kerf - (int) Math.floor(thickness * thousandths / 100.0));
    }

    private int takeOffcut(int width, int height) {
        refuse(out(width, 50, 4000) || out(height, 1, 20), Run.ARGUMENT);
        cut.sort((one, other) -> one[0] != other[0] ? one[0] - other[0] : one[1] - other[1]);
        for (int[] offcut : cut) {
            if (offcut[0] >= width && offcut[1] >= height) {
                cut.remove(offcut);
                repaired += offcut[0] * offcut[1];
                return offcut[0];
            }
        }
        throw new Refusal(Run.NONE);
    }

    private static int areaOf(Panel panel, List<Leaf> packet) {
        return packet.isEmpty() ? 0 : panel.width * panel.height;
    }

    private int account(char kind) {
        return switch (kind) {
            case 'f' -> panels.stream().mapToInt(panel -> areaOf(panel, panel.face)).sum();
            case 'b' -> panels.stream().mapToInt(panel -> areaOf(panel, panel.back)).sum();
            case 'p' -> pictures.stream().mapToInt(picture -> 64 * picture.packet.size()).sum();
            case 'o' -> cut.stream().mapToInt(offcut -> offcut[0] * offcut[1]).sum();
            case 'r' -> repaired;
            case 'w' -> used().stream().mapToInt(Leaf::area).sum() - account('f') - account('b') - account('p')
                - account('o') - account('r');
            case 'l' -> flitches.stream().flatMap(flitch -> flitch.leaves.stream())
                .filter(leaf -> !used().contains(leaf)).mapToInt(Leaf::area).sum();
            default -> throw new Refusal(Run.ARGUMENT);
        };
    }

    private static int price(Panel panel) {
        int leaves = 2 * (panel.face.size() + panel.back.size());
        int press = panel.pressedAt > 0 ? 5 : 0;
        return leaves + areaOf(panel, panel.face) / 10 + press + panel.shine - 3 * panel.blisters - 3 * panel.ghosts;
    }

    private long checksum() {
        long sum = 7;
        for (Flitch flitch : flitches) {
            sum = 31 * sum + used().stream().filter(flitch.leaves::contains).count();
        }
        for (Panel panel : panels) {
            sum = 31 * sum + price(panel);
        }
        for (Picture picture : pictures) {
            sum = 31 * sum + pieces(picture).size();
        }
        return 31 * sum + account('w');
    }
}
