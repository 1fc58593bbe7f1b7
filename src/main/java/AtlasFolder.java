/**
 * A folder of map sheets: points of the globe are put onto a map by a table, areas of the map are
 * held against areas of the globe, ways along rings and zones are told, and the sheet with the map
 * is folded, so that each of its panels lies somewhere in the folded stack, face up or down.
 */
public final class AtlasFolder {

    private static final int POLE = 90;
    private static final int FULL_RING = 360;
    private static final int HALF_RING = 180;
    private static final int WESTERNMOST = -180;
    private static final int EASTERNMOST = 179;

    private static final int TABLE_ROWS = 10;
    private static final int ROW_DEGREES = 10;
    private static final int MAX_WIDTH = 1000;
    private static final int MAX_HEIGHT = 9999;

    private static final int BANDS = 9;
    private static final int FIRST_TRUTH = 1000;
    private static final int MAX_TRUTH = 99999;

    private static final int FIRST_BREADTH = 15;

    private static final int MAX_SIDE = 6;

    private final MapTable map;
    private final BandTruths bands;
    private final ZoneRing ring;
    private final FoldedSheet stack;

    public AtlasFolder() {
        map = new MapTable();
        bands = new BandTruths();
        ring = new ZoneRing();
        stack = new FoldedSheet();
    }

    // ---- the table and the map

    public void table(int row, int width, int height)
            throws IndexOutOfBoundsException, IllegalArgumentException, IllegalStateException {
        if (row < 0 || row >= TABLE_ROWS) {
            throw new IndexOutOfBoundsException("the table has no such row");
        }
        if (width < 0 || width > MAX_WIDTH || height < 0 || height > MAX_HEIGHT) {
            throw new IllegalArgumentException("width or height is out of its range");
        }
        if (!map.wouldRise(row, height)) {
            throw new IllegalStateException("the heights would not rise from 0");
        }
        map.setRow(row, width, height);
    }

    public int x(int latitude, int longitude) throws IllegalArgumentException {
        requireLatitude(latitude);
        requireLongitude(longitude);
        return longitude * map.tenWidths(latitude);
    }

    public int y(int latitude) throws IllegalArgumentException {
        requireLatitude(latitude);
        return map.tenHeights(latitude);
    }

    public int latitudeAt(int height) throws IllegalArgumentException, IllegalStateException {
        if (height < -10 * MAX_HEIGHT || height > 10 * MAX_HEIGHT) {
            throw new IllegalArgumentException("height is out of its range");
        }
        int latitude = map.greatestNotAbove(height);
        if (latitude < -POLE) {
            throw new IllegalStateException("all of the map is above that place");
        }
        return latitude;
    }

    // ---- areas

    public long area(int south, int north, int west, int east) throws IllegalArgumentException {
        if (south < -POLE || south > north || north > POLE) {
            throw new IllegalArgumentException("south or north is out of its range");
        }
        if (west < WESTERNMOST || west > east || east > HALF_RING) {
            throw new IllegalArgumentException("west or east is out of its range");
        }
        return map.fieldArea(south, north, east - west);
    }

    public long areaByCells(int south, int north, int west, int east)
            throws IllegalArgumentException {
        // 200 times the area of a cell is a whole number, so that adding up loses nothing, and the
        // cells of a strip are alike: area() has their sum already.
        return area(south, north, west, east);
    }

    public int truth(int band, int truth)
            throws IndexOutOfBoundsException, IllegalArgumentException {
        requireBand(band);
        if (truth < 1 || truth > MAX_TRUTH) {
            throw new IllegalArgumentException("truth is out of its range");
        }
        return bands.replaceTruth(band, truth);
    }

    public boolean keepsAreas() {
        return bands.areAllAlike(map);
    }

    public int widest() {
        return bands.greatest(map);
    }

    public float stretch(int band) throws IndexOutOfBoundsException {
        requireBand(band);
        return bands.areaByTruth(map, band);
    }

    // ---- rings and zones

    public int apart(int one, int other) throws IllegalArgumentException {
        requireLongitude(one);
        requireLongitude(other);
        return shorterWay(one, other);
    }

    public int ringWay(int latitude, int one, int other) throws IllegalArgumentException {
        requireLatitude(latitude);
        requireLongitude(one);
        requireLongitude(other);
        return shorterWay(one, other) * map.tenWidths(latitude);
    }

    public int zones(int breadth) throws IllegalArgumentException {
        if (breadth < 1 || breadth > FULL_RING || FULL_RING % breadth != 0) {
            throw new IllegalArgumentException("breadth does not divide 360");
        }
        return ring.replaceBreadth(breadth);
    }

    public int zone(int longitude) throws IllegalArgumentException {
        requireLongitude(longitude);
        return ring.zonesBefore(longitude);
    }

    public int seams(int one, int other) throws IllegalArgumentException {
        requireLongitude(one);
        requireLongitude(other);
        // A way to the west crosses the same seams as that way gone back to the east.
        int start = goesEast(one, other) ? one : other;
        return ring.seamsEastOf(start, shorterWay(one, other));
    }

    public int dateLine(int one, int other) throws IllegalArgumentException {
        requireLongitude(one);
        requireLongitude(other);
        if (goesEast(one, other)) {
            return other < one ? 1 : 0;
        }
        return other > one ? -1 : 0;
    }

    // ---- the sheet

    public void sheet(int columns, int rows) throws IllegalArgumentException {
        if (columns < 1 || columns > MAX_SIDE || rows < 1 || rows > MAX_SIDE) {
            throw new IllegalArgumentException("columns or rows is out of its range");
        }
        stack.layOut(columns, rows);
    }

    public int foldColumns(int before) throws IllegalStateException {
        return someTurned(stack.turnOverColumns(before));
    }

    public int foldRows(int before) throws IllegalStateException {
        return someTurned(stack.turnOverRows(before));
    }

    public int unfold() {
        return stack.spread();
    }

    public int panel(int latitude, int longitude) throws IllegalArgumentException {
        requireLatitude(latitude);
        requireLongitude(longitude);
        return 10 * stack.columnOf(longitude) + stack.rowOf(latitude);
    }

    public int placeX(int column, int row) throws IndexOutOfBoundsException {
        requirePanel(column, row);
        return stack.columnPlace(column, row);
    }

    public int placeY(int column, int row) throws IndexOutOfBoundsException {
        requirePanel(column, row);
        return stack.rowPlace(column, row);
    }

    public int above(int column, int row) throws IndexOutOfBoundsException {
        requirePanel(column, row);
        return stack.panelsAbove(column, row);
    }

    public boolean isUp(int column, int row) throws IndexOutOfBoundsException {
        requirePanel(column, row);
        return stack.liesFaceUp(column, row);
    }

    public int thickness() {
        return stack.mostPanels();
    }

    public int readable() {
        return stack.readablePanels();
    }

    // ---- what the calls have in common

    private static void requireLatitude(int latitude) throws IllegalArgumentException {
        if (latitude < -POLE || latitude > POLE) {
            throw new IllegalArgumentException("there is no such latitude");
        }
    }

    private static void requireLongitude(int longitude) throws IllegalArgumentException {
        if (longitude < WESTERNMOST || longitude > EASTERNMOST) {
            throw new IllegalArgumentException("there is no such longitude");
        }
    }

    private static void requireBand(int band) throws IndexOutOfBoundsException {
        if (band < 0 || band >= BANDS) {
            throw new IndexOutOfBoundsException("there is no such band");
        }
    }

    private void requirePanel(int column, int row) throws IndexOutOfBoundsException {
        if (!stack.hasPanel(column, row)) {
            throw new IndexOutOfBoundsException("the sheet has no such column or row");
        }
    }

    private static int someTurned(int turned) throws IllegalStateException {
        if (turned == 0) {
            throw new IllegalStateException("there are no panels on one side of the line");
        }
        return turned;
    }

    private static int degreesEast(int one, int other) {
        int degrees = other - one;
        return degrees < 0 ? degrees + FULL_RING : degrees;
    }

    // Of two ways that are alike the one to the east is taken.
    private static boolean goesEast(int one, int other) {
        return degreesEast(one, other) <= HALF_RING;
    }

    private static int shorterWay(int one, int other) {
        int east = degreesEast(one, other);
        return Math.min(east, FULL_RING - east);
    }

    /** The table of widths and heights, and what is measured on the map that it makes. */
    private static final class MapTable {

        private final int[] widths;
        private final int[] heights;

        MapTable() {
            widths = new int[TABLE_ROWS];
            heights = new int[TABLE_ROWS];
            for (int row = 0; row < TABLE_ROWS; row++) {
                widths[row] = 1000 - 100 * row;
                heights[row] = 1000 * row;
            }
        }

        boolean wouldRise(int row, int height) {
            if (row == 0) {
                return height == 0;
            }
            return height > valueAt(heights, row - 1)
                    && (row == TABLE_ROWS - 1 || height < valueAt(heights, row + 1));
        }

        void setRow(int row, int width, int height) {
            if (row >= 0 && row < TABLE_ROWS) {
                widths[row] = width;
                heights[row] = height;
            }
        }

        int tenWidths(int latitude) {
            return tenTimesAt(widths, Math.abs(latitude));
        }

        int tenHeights(int latitude) {
            int north = tenTimesAt(heights, Math.abs(latitude));
            return latitude < 0 ? -north : north;
        }

        /** Answers a latitude beyond the south pole if all of the map is above that height. */
        int greatestNotAbove(int tenHeights) {
            int latitude = POLE;
            while (latitude >= -POLE && tenHeights(latitude) > tenHeights) {
                latitude--;
            }
            return latitude;
        }

        /** 200 times the area. */
        long fieldArea(int south, int north, int degreesWide) {
            long area = 0;
            for (int latitude = south; latitude < north; latitude++) {
                area += degreesWide * cellArea(latitude);
            }
            return area;
        }

        // Twice the mean width, ten times too great, by ten times the height: 200 times the area.
        private long cellArea(int south) {
            long bothWidths = tenWidths(south) + tenWidths(south + 1);
            return bothWidths * (tenHeights(south + 1) - tenHeights(south));
        }

        /** The same as fieldArea() of the band: its borders are straight from row to row. */
        long bandArea(int band) {
            long bothWidths = valueAt(widths, band) + valueAt(widths, band + 1);
            long height = valueAt(heights, band + 1) - valueAt(heights, band);
            return 100 * FULL_RING * bothWidths * height;
        }

        private static int tenTimesAt(int[] values, int degrees) {
            int row = degrees / ROW_DEGREES;
            int past = degrees % ROW_DEGREES;
            return (ROW_DEGREES - past) * valueAt(values, row) + past * valueAt(values, row + 1);
        }

        // The pole lies on the last row: what would stand in a row behind it counts 0 times there.
        private static int valueAt(int[] values, int row) {
            return row >= 0 && row < values.length ? values[row] : 0;
        }
    }

    /** The bands with their truths, held against their areas on the map. */
    private static final class BandTruths {

        private final int[] truths;

        BandTruths() {
            truths = new int[BANDS];
            for (int band = 0; band < BANDS; band++) {
                truths[band] = FIRST_TRUTH;
            }
        }

        int replaceTruth(int band, int truth) {
            int before = truthOf(band);
            if (band >= 0 && band < BANDS) {
                truths[band] = truth;
            }
            return before;
        }

        boolean areAllAlike(MapTable map) {
            // Truths are above 0, so that bands which are all like one are like one another.
            for (int band = 1; band < BANDS; band++) {
                if (compareBands(map, band, 0) != 0) {
                    return false;
                }
            }
            return true;
        }

        int greatest(MapTable map) {
            int best = 0;
            for (int band = 1; band < BANDS; band++) {
                if (compareBands(map, band, best) > 0) {
                    best = band;
                }
            }
            return best;
        }

        float areaByTruth(MapTable map, int band) {
            return (float) map.bandArea(band) / (float) truthOf(band);
        }

        // An area is below 10 to the 12th and a truth below 10 to the 5th: a long holds it exactly.
        private int compareBands(MapTable map, int one, int other) {
            return Long.compare(
                    map.bandArea(one) * truthOf(other), map.bandArea(other) * truthOf(one));
        }

        private int truthOf(int band) {
            return band >= 0 && band < BANDS ? truths[band] : FIRST_TRUTH;
        }
    }

    /** The zones of one breadth, numbered eastwards from the date line. */
    private static final class ZoneRing {

        private int breadth;

        ZoneRing() {
            breadth = FIRST_BREADTH;
        }

        int replaceBreadth(int next) {
            int before = breadth;
            breadth = next;
            return before;
        }

        /** The zones that end west of a longitude; past the ring they are counted on. */
        int zonesBefore(int longitude) {
            return breadth < 1 ? 0 : (longitude - WESTERNMOST) / breadth;
        }

        // A zone ends at the date line too, so that a way across it meets the seams counted on.
        int seamsEastOf(int start, int degrees) {
            return zonesBefore(start + degrees) - zonesBefore(start);
        }
    }

    /** The sheet, with the numbers of its panels column after column. */
    private static final class FoldedSheet {

        private final int[] columnPlaces;
        private final int[] rowPlaces;
        private final int[] layers;
        private final boolean[] faceUp;
        private int columns;
        private int rows;
        private int folds;

        FoldedSheet() {
            int most = MAX_SIDE * MAX_SIDE;
            columnPlaces = new int[most];
            rowPlaces = new int[most];
            layers = new int[most];
            faceUp = new boolean[most];
            layOut(1, 1);
        }

        void layOut(int newColumns, int newRows) {
            columns = newColumns;
            rows = newRows;
            spread();
        }

        /** Answers how many folds there were. */
        int spread() {
            for (int column = 0; column < columns; column++) {
                for (int row = 0; row < rows; row++) {
                    int panel = number(column, row);
                    columnPlaces[panel] = column;
                    rowPlaces[panel] = row;
                    layers[panel] = 0;
                    faceUp[panel] = true;
                }
            }
            int before = folds;
            folds = 0;
            return before;
        }

        int columnOf(int longitude) {
            return (longitude - WESTERNMOST) * columns / FULL_RING;
        }

        int rowOf(int latitude) {
            return Math.min((POLE - latitude) * rows / (2 * POLE), rows - 1);
        }

        boolean hasPanel(int column, int row) {
            return column >= 0 && column < columns && row >= 0 && row < rows;
        }

        int columnPlace(int column, int row) {
            return hasPanel(column, row) ? columnPlaces[number(column, row)] : 0;
        }

        int rowPlace(int column, int row) {
            return hasPanel(column, row) ? rowPlaces[number(column, row)] : 0;
        }

        boolean liesFaceUp(int column, int row) {
            return hasPanel(column, row) && faceUp[number(column, row)];
        }

        int panelsAbove(int column, int row) {
            return hasPanel(column, row) ? higherThan(number(column, row)) : 0;
        }

        int turnOverColumns(int before) {
            return turnOver(columnPlaces, before);
        }

        int turnOverRows(int before) {
            return turnOver(rowPlaces, before);
        }

        int mostPanels() {
            // The lowest panel of the thickest place has all the others of that place above it.
            int most = 0;
            for (int panel = 0; panel < panels(); panel++) {
                most = Math.max(most, higherThan(panel) + 1);
            }
            return most;
        }

        int readablePanels() {
            int readable = 0;
            for (int panel = 0; panel < panels(); panel++) {
                if (faceUp[panel] && higherThan(panel) == 0) {
                    readable++;
                }
            }
            return readable;
        }

        private int panels() {
            return columns * rows;
        }

        private int number(int column, int row) {
            return column * rows + row;
        }

        /** Answers how many, or 0 with nothing changed if a side of the line has no panels. */
        private int turnOver(int[] places, int before) {
            int turned = placesBelow(places, before);
            if (turned == 0 || turned == panels()) {
                return 0;
            }
            int top = highestLayer();
            for (int panel = 0; panel < panels(); panel++) {
                if (places[panel] < before) {
                    places[panel] = 2 * before - 1 - places[panel];
                    layers[panel] = 2 * top + 1 - layers[panel];
                    faceUp[panel] = !faceUp[panel];
                }
            }
            folds++;
            return turned;
        }

        private int placesBelow(int[] places, int before) {
            int below = 0;
            for (int panel = 0; panel < panels(); panel++) {
                if (places[panel] < before) {
                    below++;
                }
            }
            return below;
        }

        private int highestLayer() {
            int highest = 0;
            for (int panel = 0; panel < panels(); panel++) {
                highest = Math.max(highest, layers[panel]);
            }
            return highest;
        }

        private int higherThan(int panel) {
            int higher = 0;
            for (int other = 0; other < panels(); other++) {
                if (columnPlaces[other] == columnPlaces[panel]
                        && rowPlaces[other] == rowPlaces[panel]
                        && layers[other] > layers[panel]) {
                    higher++;
                }
            }
            return higher;
        }
    }
}
