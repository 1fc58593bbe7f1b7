/** Promises 6 to 11: area to stretch. RefusedTest has what they refuse. */
final class AreaTest {

    private static final int AREA = 6;
    private static final int AREA_BY_CELLS = 7;

    /** area() and areaByCells(), which answer alike. */
    private interface Measure {
        long of(int south, int north, int west, int east);
    }

    private AreaTest() {
    }

    static void run() {
        AtlasFolder byField = new AtlasFolder();
        fieldsAreMeasured(AREA, byField, byField::area);
        emptyFieldsHaveNoArea(AREA, byField::area);
        fieldsOnBothSidesOfARow(AREA, byField, byField::area);
        greatestMapIsMeasured(AREA, byField, byField::area);
        AtlasFolder byCells = new AtlasFolder();
        fieldsAreMeasured(AREA_BY_CELLS, byCells, byCells::areaByCells);
        emptyFieldsHaveNoArea(AREA_BY_CELLS, byCells::areaByCells);
        fieldsOnBothSidesOfARow(AREA_BY_CELLS, byCells, byCells::areaByCells);
        greatestMapIsMeasured(AREA_BY_CELLS, byCells, byCells::areaByCells);
        fieldsAreTheSumsOfTheirCells();
        truthIsReplaced();
        mapKeepsAreas();
        anyTwoBandsAreCompared();
        emptyBandsAreComparedToo();
        greatestProductsAreCompared();
        widestIsTheLowestOfSeveral();
        widestIsAnyBand();
        fractionsAreComparedExactly();
        stretchIsAFloat();
        stretchOfTheLeastAndTheGreatest();
    }

    private static void fieldsAreMeasured(int promise, AtlasFolder atlas, Measure area) {
        Check.promise(promise);
        Check.due("the band 0", 68400000000L, area.of(0, 10, -180, 180));
        Check.due("over the equator", 380000000L, area.of(-10, 10, 0, 1));
        Check.due("up to the pole", 125000000L, area.of(85, 90, 10, 20));
        Check.due("from the south pole", 125000000L, area.of(-90, -85, -20, -10));
        Check.due("one cell", 1000L * (10000 + 9900), area.of(0, 1, 0, 1));
        Check.due("a southern cell", 1000L * (10000 + 9900), area.of(-1, 0, 0, 1));
        Check.due("the cell of the north west", 1000L * 2100, area.of(89, 90, -180, -179));
        Check.due("the cell of the south east", 1000L * 2100, area.of(-90, -89, 179, 180));
        Check.due("all", 2 * 360 * 100L * 1000 * 9900, area.of(-90, 90, -180, 180));
        Check.due("the north", 360 * 100L * 1000 * 9900, area.of(0, 90, -180, 180));
        Check.due("the east", 2 * 180 * 100L * 1000 * 9900, area.of(-90, 90, 0, 180));
        atlas.table(1, 900, 1001);
        Check.due("another table", 1001L * (10000 + 9900), area.of(0, 1, 0, 1));
        atlas.table(1, 900, 1000);
    }

    private static void emptyFieldsHaveNoArea(int promise, Measure area) {
        Check.promise(promise);
        int[] latitudes = {-90, -1, 0, 17, 90};
        for (int latitude : latitudes) {
            Check.due("no height at " + latitude, 0L, area.of(latitude, latitude, -180, 180));
        }
        int[] longitudes = {-180, -1, 0, 179, 180};
        for (int longitude : longitudes) {
            Check.due("no breadth at " + longitude, 0L, area.of(-90, 90, longitude, longitude));
        }
        Check.due("neither at a corner", 0L, area.of(90, 90, 180, 180));
        Check.due("neither at the other corner", 0L, area.of(-90, -90, -180, -180));
    }

    private static void fieldsOnBothSidesOfARow(int promise, AtlasFolder atlas, Measure area) {
        Check.promise(promise);
        atlas.table(4, 100, 3500);
        Check.due("below the row", 500L * (1000 + 1600), area.of(39, 40, 0, 1));
        Check.due("above the row", 1500L * (1000 + 1400), area.of(40, 41, 0, 1));
        Check.due("both", 500L * (1000 + 1600) + 1500L * (1000 + 1400), area.of(39, 41, 7, 8));
        Check.due("both in the south", 500L * (1000 + 1600) + 1500L * (1000 + 1400),
                area.of(-41, -39, 7, 8));
        atlas.table(4, 600, 4000);
    }

    private static void greatestMapIsMeasured(int promise, AtlasFolder atlas, Measure area) {
        Check.promise(promise);
        for (int row = 1; row <= 9; row++) {
            atlas.table(row, 1000, 1000 * row);
        }
        atlas.table(9, 1000, 9999);
        Check.due("the greatest map", 360L * 20000 * 199980, area.of(-90, 90, -180, 180));
        for (int row = 0; row <= 9; row++) {
            atlas.table(row, 0, row);
        }
        Check.due("a map without width", 0L, area.of(-90, 90, -180, 180));
        atlas.table(9, 1, 9);
        Check.due("the least area", 1L, area.of(80, 81, 0, 1));
    }

    private static void fieldsAreTheSumsOfTheirCells() {
        for (int south = -90; south <= 90; south += 7) {
            for (int north = south; north <= 90; north += 11) {
                AtlasFolder atlas = new AtlasFolder();
                atlas.table(2, 17, 1501);
                atlas.table(5, 999, 5003);
                atlas.table(6, 0, 6997);
                long sum = 0;
                for (int cell = south; cell < north; cell++) {
                    sum += atlas.area(cell, cell + 1, 5, 6);
                }
                Check.promise(AREA);
                Check.due("strips", 21 * sum, atlas.area(south, north, -8, 13));
                Check.promise(AREA_BY_CELLS);
                Check.due("cells", 21 * sum, atlas.areaByCells(south, north, -8, 13));
            }
        }
    }

    private static void truthIsReplaced() {
        Check.promise(8);
        AtlasFolder atlas = new AtlasFolder();
        for (int band = 0; band <= 8; band++) {
            Check.due("truth(" + band + ", 1)", 1000, atlas.truth(band, 1));
        }
        for (int band = 0; band <= 8; band++) {
            Check.due("truth(" + band + ", 99999)", 1, atlas.truth(band, 99999));
            Check.due("truth(" + band + ", 99999) again", 99999, atlas.truth(band, 99999));
            Check.due("truth(" + band + ", 7)", 99999, atlas.truth(band, 7));
        }
        for (int band = 8; band >= 0; band--) {
            Check.due("truth(" + band + ", 1000)", 7, atlas.truth(band, 1000));
        }
    }

    /** The area of the band k is as (k + 1), at one width all over the map. */
    private static AtlasFolder withBandsOneToNine() {
        AtlasFolder atlas = new AtlasFolder();
        for (int row = 1; row <= 9; row++) {
            atlas.table(row, 1000, 50 * row * (row + 1));
        }
        return atlas;
    }

    private static void mapKeepsAreas() {
        Check.promise(9);
        AtlasFolder atlas = withBandsOneToNine();
        Check.due("keepsAreas, equal truths", false, atlas.keepsAreas());
        for (int band = 0; band <= 8; band++) {
            atlas.truth(band, 300 * (band + 1));
        }
        Check.due("keepsAreas, due truths", true, atlas.keepsAreas());
        atlas.table(9, 1000, 4501);
        Check.due("keepsAreas, the last band too high", false, atlas.keepsAreas());
        atlas.table(9, 999, 4500);
        Check.due("keepsAreas, the last band too narrow", false, atlas.keepsAreas());
        atlas.table(9, 1000, 4500);
        atlas.table(0, 999, 0);
        Check.due("keepsAreas, the first band too narrow", false, atlas.keepsAreas());
    }

    private static void anyTwoBandsAreCompared() {
        Check.promise(9);
        AtlasFolder atlas = withBandsOneToNine();
        for (int band = 0; band <= 8; band++) {
            atlas.truth(band, 11111 * (band + 1));
        }
        Check.due("keepsAreas, greatest truths", true, atlas.keepsAreas());
        for (int band = 0; band <= 8; band++) {
            int before = atlas.truth(band, 11111 * (band + 1) - 1);
            Check.due("keepsAreas, band " + band + " less true", false, atlas.keepsAreas());
            atlas.truth(band, before);
        }
        for (int band = 0; band <= 7; band++) {
            int before = atlas.truth(band, 11111 * (band + 1) + 1);
            Check.due("keepsAreas, band " + band + " truer", false, atlas.keepsAreas());
            atlas.truth(band, before);
        }
        Check.due("keepsAreas, due truths again", true, atlas.keepsAreas());
    }

    private static void emptyBandsAreComparedToo() {
        AtlasFolder atlas = new AtlasFolder();
        for (int row = 0; row <= 9; row++) {
            atlas.table(row, 0, 1000 * row);
        }
        atlas.truth(4, 99999);
        Check.promise(9);
        Check.due("keepsAreas of nothing", true, atlas.keepsAreas());
        Check.promise(10);
        Check.due("widest of nothing", 0, atlas.widest());
        Check.promise(11);
        Check.due("stretch of nothing", 0.0f, atlas.stretch(4));
        atlas.table(9, 1, 9000);
        Check.promise(9);
        Check.due("keepsAreas of a last band alone", false, atlas.keepsAreas());
        Check.promise(10);
        Check.due("widest of a last band alone", 8, atlas.widest());
        atlas.table(9, 0, 9000);
        atlas.table(0, 1, 0);
        Check.promise(9);
        Check.due("keepsAreas of a first band alone", false, atlas.keepsAreas());
        Check.promise(10);
        Check.due("widest of a first band alone", 0, atlas.widest());
    }

    /** One band is as high as can be, at the greatest width and truth. */
    private static void greatestProductsAreCompared() {
        AtlasFolder atlas = new AtlasFolder();
        for (int row = 1; row <= 8; row++) {
            atlas.table(row, 1000, row);
        }
        atlas.table(9, 1000, 9999);
        for (int band = 0; band <= 8; band++) {
            atlas.truth(band, 99999);
        }
        Check.promise(10);
        Check.due("widest of the greatest", 8, atlas.widest());
        Check.promise(9);
        Check.due("keepsAreas of the greatest", false, atlas.keepsAreas());
        for (int band = 0; band <= 7; band++) {
            atlas.truth(band, 10);
        }
        atlas.truth(8, 99910);
        Check.due("keepsAreas, 9991 times as high", true, atlas.keepsAreas());
        Check.promise(10);
        Check.due("widest, 9991 times as high", 0, atlas.widest());
        atlas.truth(8, 99911);
        Check.due("widest, a little truer", 0, atlas.widest());
        atlas.truth(8, 99909);
        Check.due("widest, a little less true", 8, atlas.widest());
    }

    private static void widestIsTheLowestOfSeveral() {
        Check.promise(10);
        AtlasFolder atlas = new AtlasFolder();
        Check.due("widest at first", 0, atlas.widest());
        for (int row = 1; row <= 9; row++) {
            atlas.table(row, 1000, 1000 * row);
        }
        Check.due("widest of nine alike", 0, atlas.widest());
        atlas.truth(0, 1001);
        Check.due("widest of eight alike", 1, atlas.widest());
        atlas.truth(8, 500);
        atlas.truth(7, 500);
        Check.due("widest of the last two", 7, atlas.widest());
        atlas.truth(0, 500);
        Check.due("widest of the first one too", 0, atlas.widest());
    }

    private static void widestIsAnyBand() {
        Check.promise(10);
        AtlasFolder atlas = new AtlasFolder();
        for (int band = 0; band <= 8; band++) {
            int before = atlas.truth(band, 1);
            Check.due("widest alone", band, atlas.widest());
            atlas.truth(band, before);
        }
    }

    /** 2000 * 964 / 97433 is less than 1999 * 903 / 91222, but the same in floats. */
    private static void fractionsAreComparedExactly() {
        AtlasFolder atlas = new AtlasFolder();
        for (int row = 1; row <= 8; row++) {
            atlas.table(row, 1000, 964 * row);
            atlas.truth(row - 1, 97433);
        }
        atlas.table(9, 999, 964 * 8 + 903);
        atlas.truth(8, 91222);
        Check.promise(11);
        Check.due("one stretch", atlas.stretch(0), atlas.stretch(8));
        Check.promise(10);
        Check.due("widest of close fractions", 8, atlas.widest());
        Check.promise(9);
        Check.due("keepsAreas of close fractions", false, atlas.keepsAreas());
    }

    private static void stretchIsAFloat() {
        Check.promise(11);
        AtlasFolder atlas = new AtlasFolder();
        for (int band = 0; band <= 8; band++) {
            float due = (float) atlas.area(10 * band, 10 * band + 10, -180, 180) / 1000f;
            Check.due("stretch(" + band + ")", due, atlas.stretch(band));
        }
        Check.due("stretch(0)", 6.84E7f, atlas.stretch(0));
        Check.due("stretch(8)", (float) 10800000000L / 1000f, atlas.stretch(8));
        atlas.table(9, 1000, 9999);
        atlas.truth(8, 7);
        float due = (float) (36000L * 1200 * 1999) / (float) 7;
        Check.due("stretch(8), odd", due, atlas.stretch(8));
        for (int row = 1; row <= 9; row++) {
            atlas.table(row, 1000, 1000 * row);
        }
        atlas.truth(3, 2000);
        Check.due("stretch(3), in floats", 3.5999996E7f, atlas.stretch(3));
    }

    private static void stretchOfTheLeastAndTheGreatest() {
        Check.promise(11);
        AtlasFolder atlas = new AtlasFolder();
        for (int row = 1; row <= 9; row++) {
            atlas.table(row, 1000, 1000 * row);
        }
        atlas.truth(3, 1);
        Check.due("stretch(3), truth 1", 7.1999995904E10f, atlas.stretch(3));
        atlas.truth(3, 99999);
        Check.due("stretch(3), truth 99999", (float) 72000000000L / 99999f, atlas.stretch(3));
        for (int row = 0; row <= 8; row++) {
            atlas.table(row, 0, row);
        }
        atlas.table(9, 1, 9);
        atlas.truth(8, 99999);
        Check.due("the least stretch", 36000f / 99999f, atlas.stretch(8));
    }
}
