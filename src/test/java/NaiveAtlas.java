import java.math.BigInteger;
import java.util.ArrayList;
import java.util.Collections;
import java.util.LinkedHashMap;
import java.util.List;
import java.util.Map;

/**
 * The document's words once more, as slowly and as literally as they stand: areas cell by cell from
 * the corners, ways degree by degree, the folded sheet as piles of panels.
 */
final class NaiveAtlas {

    /** A panel in a pile. */
    private static final class Sheetlet {
        private final int column;
        private final int row;
        private boolean up = true;

        Sheetlet(int column, int row) {
            this.column = column;
            this.row = row;
        }
    }

    private final int[] width = new int[10];
    private final int[] height = new int[10];
    private final int[] truth = new int[9];
    private final int[] zoneOf = new int[360];
    private int breadth = 15;
    private int columns = 1;
    private int rows = 1;
    private int folds;
    /** The piles by x and y, each from the lowest panel to the highest. */
    private Map<List<Integer>, List<Sheetlet>> piles;

    NaiveAtlas() {
        for (int k = 0; k < 10; k++) {
            width[k] = 1000 - 100 * k;
            height[k] = 1000 * k;
        }
        java.util.Arrays.fill(truth, 1000);
        cutZones();
        layOut();
    }

    private static void need(boolean holds) {
        if (!holds) {
            throw new IllegalArgumentException();
        }
    }

    private static void needIndex(boolean holds) {
        if (!holds) {
            throw new IndexOutOfBoundsException();
        }
    }

    private static void needState(boolean holds) {
        if (!holds) {
            throw new IllegalStateException();
        }
    }

    private static boolean in(int value, int least, int greatest) {
        return least <= value && value <= greatest;
    }

    void table(int row, int newWidth, int newHeight) {
        needIndex(in(row, 0, 9));
        need(in(newWidth, 0, 1000) && in(newHeight, 0, 9999));
        int[] next = height.clone();
        next[row] = newHeight;
        needState(next[0] == 0);
        for (int k = 1; k < 10; k++) {
            needState(next[k - 1] < next[k]);
        }
        width[row] = newWidth;
        height[row] = newHeight;
    }

    private static int line(int[] values, int latitude) {
        int north = latitude < 0 ? -latitude : latitude;
        return north == 90 ? 10 * values[9]
                : 10 * values[north / 10] + north % 10 * (values[north / 10 + 1] - values[north / 10]);
    }

    int x(int latitude, int longitude) {
        need(in(latitude, -90, 90) && in(longitude, -180, 179));
        return longitude * line(width, latitude);
    }

    int y(int latitude) {
        need(in(latitude, -90, 90));
        return latitude < 0 ? -line(height, latitude) : line(height, latitude);
    }

    int latitudeAt(int place) {
        need(in(place, -99990, 99990));
        needState(y(-90) <= place);
        int found = -90;
        for (int latitude = -90; latitude <= 90; latitude++) {
            if (y(latitude) <= place) {
                found = latitude;
            }
        }
        return found;
    }

    /** 200 times the area of the four corners, by the shoelace: the corners are 10 times x and y. */
    private long cell(int south, int west) {
        long[] xs = {(long) west * line(width, south), (west + 1L) * line(width, south),
            (west + 1L) * line(width, south + 1), (long) west * line(width, south + 1)};
        long[] ys = {y(south), y(south), y(south + 1), y(south + 1)};
        long twice = 0;
        for (int k = 0; k < 4; k++) {
            twice += xs[k] * ys[(k + 1) % 4] - xs[(k + 1) % 4] * ys[k];
        }
        return twice;
    }

    long area(int south, int north, int west, int east) {
        need(in(south, -90, 90) && in(north, south, 90));
        need(in(west, -180, 180) && in(east, west, 180));
        long sum = 0;
        for (int latitude = south; latitude < north; latitude++) {
            for (int longitude = west; longitude < east; longitude++) {
                sum += cell(latitude, longitude);
            }
        }
        return sum;
    }

    int truth(int band, int next) {
        needIndex(in(band, 0, 8));
        need(in(next, 1, 99999));
        int before = truth[band];
        truth[band] = next;
        return before;
    }

    private long band(int band) {
        return 360 * area(10 * band, 10 * band + 10, 0, 1);
    }

    private int compare(int one, int other) {
        BigInteger first = BigInteger.valueOf(band(one)).multiply(BigInteger.valueOf(truth[other]));
        BigInteger second = BigInteger.valueOf(band(other)).multiply(BigInteger.valueOf(truth[one]));
        return first.compareTo(second);
    }

    boolean keepsAreas() {
        for (int one = 0; one < 9; one++) {
            for (int other = 0; other < 9; other++) {
                if (compare(one, other) != 0) {
                    return false;
                }
            }
        }
        return true;
    }

    int widest() {
        for (int one = 0; one < 9; one++) {
            boolean greatest = true;
            for (int other = 0; other < 9; other++) {
                greatest = greatest && compare(one, other) >= 0;
            }
            if (greatest) {
                return one;
            }
        }
        throw new AssertionError("no band is greatest");
    }

    float stretch(int band) {
        needIndex(in(band, 0, 8));
        float area = band(band);
        float by = truth[band];
        return area / by;
    }

    private static int eastOf(int longitude) {
        return longitude == 179 ? -180 : longitude + 1;
    }

    private static int westOf(int longitude) {
        return longitude == -180 ? 179 : longitude - 1;
    }

    /** Goes degree by degree; answers the steps, the seams and the date line crossed. */
    private int[] way(int one, int other, boolean east) {
        int[] crossed = new int[3];
        int at = one;
        while (at != other) {
            int next = east ? eastOf(at) : westOf(at);
            boolean line = east ? at == 179 : at == -180;
            crossed[0]++;
            if (line || zone(at) != zone(next)) {
                crossed[1]++;
            }
            if (line) {
                crossed[2] = east ? 1 : -1;
            }
            at = next;
        }
        return crossed;
    }

    private int[] shorter(int one, int other) {
        need(in(one, -180, 179) && in(other, -180, 179));
        int[] east = way(one, other, true);
        int[] west = way(one, other, false);
        return east[0] <= west[0] ? east : west;
    }

    int apart(int one, int other) {
        return shorter(one, other)[0];
    }

    int ringWay(int latitude, int one, int other) {
        need(in(latitude, -90, 90));
        return shorter(one, other)[0] * line(width, latitude);
    }

    int zones(int next) {
        need(in(next, 1, 360) && 360 % next == 0);
        int before = breadth;
        breadth = next;
        cutZones();
        return before;
    }

    private void cutZones() {
        int zone = 0;
        int left = breadth;
        for (int k = 0; k < 360; k++) {
            if (left == 0) {
                zone++;
                left = breadth;
            }
            zoneOf[k] = zone;
            left--;
        }
    }

    int zone(int longitude) {
        need(in(longitude, -180, 179));
        return zoneOf[longitude + 180];
    }

    int seams(int one, int other) {
        return shorter(one, other)[1];
    }

    int dateLine(int one, int other) {
        return shorter(one, other)[2];
    }

    private void layOut() {
        piles = new LinkedHashMap<>();
        for (int c = 0; c < columns; c++) {
            for (int r = 0; r < rows; r++) {
                piles.put(List.of(c, r), new ArrayList<>(List.of(new Sheetlet(c, r))));
            }
        }
        folds = 0;
    }

    void sheet(int newColumns, int newRows) {
        need(in(newColumns, 1, 6) && in(newRows, 1, 6));
        columns = newColumns;
        rows = newRows;
        layOut();
    }

    int foldColumns(int before) {
        return fold(0, before);
    }

    int foldRows(int before) {
        return fold(1, before);
    }

    private int fold(int axis, int before) {
        List<List<Integer>> taken = new ArrayList<>();
        for (List<Integer> place : piles.keySet()) {
            if (place.get(axis) < before) {
                taken.add(place);
            }
        }
        needState(!taken.isEmpty() && taken.size() < piles.size());
        int turned = 0;
        for (List<Integer> place : taken) {
            List<Sheetlet> pile = piles.remove(place);
            Collections.reverse(pile);
            for (Sheetlet panel : pile) {
                panel.up = !panel.up;
            }
            int next = 2 * before - 1 - place.get(axis);
            List<Integer> onto = axis == 0 ? List.of(next, place.get(1)) : List.of(place.get(0), next);
            piles.computeIfAbsent(onto, none -> new ArrayList<>()).addAll(pile);
            turned += pile.size();
        }
        folds++;
        return turned;
    }

    int unfold() {
        int before = folds;
        layOut();
        return before;
    }

    int panel(int latitude, int longitude) {
        need(in(latitude, -90, 90) && in(longitude, -180, 179));
        int column = Math.floorDiv((longitude + 180) * columns, 360);
        int row = Math.floorDiv((90 - latitude) * rows, 180);
        return 10 * column + (row == rows ? rows - 1 : row);
    }

    /** Answers x, y, how many lie above and whether it is up. */
    private int[] lookFor(int column, int row) {
        needIndex(in(column, 0, columns - 1) && in(row, 0, rows - 1));
        for (Map.Entry<List<Integer>, List<Sheetlet>> pile : piles.entrySet()) {
            for (int k = 0; k < pile.getValue().size(); k++) {
                Sheetlet panel = pile.getValue().get(k);
                if (panel.column == column && panel.row == row) {
                    return new int[] {pile.getKey().get(0), pile.getKey().get(1),
                        pile.getValue().size() - 1 - k, panel.up ? 1 : 0};
                }
            }
        }
        throw new AssertionError("a panel is lost");
    }

    int placeX(int column, int row) {
        return lookFor(column, row)[0];
    }

    int placeY(int column, int row) {
        return lookFor(column, row)[1];
    }

    int above(int column, int row) {
        return lookFor(column, row)[2];
    }

    boolean isUp(int column, int row) {
        return lookFor(column, row)[3] == 1;
    }

    int thickness() {
        int most = 0;
        for (List<Sheetlet> pile : piles.values()) {
            most = Math.max(most, pile.size());
        }
        return most;
    }

    int readable() {
        int readable = 0;
        for (List<Sheetlet> pile : piles.values()) {
            readable += pile.get(pile.size() - 1).up ? 1 : 0;
        }
        return readable;
    }
}
