/** Promises 6 to 11: area, areaByCells, truth, keepsAreas, widest, stretch. */
final class AreaTest {

    /** area() and areaByCells(), which answer alike. */
    private interface Measure {
        long of(int south, int north, int west, int east);
    }

    private AreaTest() {
    }

    static void run() {
        AtlasFolder byField = new AtlasFolder();
        fieldsAreMeasured("area", byField, byField::area);
        fieldsAreRefused("area", byField::area);
        AtlasFolder byCells = new AtlasFolder();
        fieldsAreMeasured("areaByCells", byCells, byCells::areaByCells);
        fieldsAreRefused("areaByCells", byCells::areaByCells);
        fieldsAreTheSumsOfTheirCells();
        truthIsReplaced();
        truthRefuses();
        mapKeepsAreas();
        emptyBandsAreComparedToo();
        widestIsTheLowestOfSeveral();
        fractionsAreComparedExactly();
        stretchIsAFloat();
    }

    private static void fieldsAreMeasured(String name, AtlasFolder atlas, Measure area) {
        Check.due(name + " of the band 0", 68400000000L, area.of(0, 10, -180, 180));
        Check.due(name + " over the equator", 380000000L, area.of(-10, 10, 0, 1));
        Check.due(name + " up to the pole", 125000000L, area.of(85, 90, 10, 20));
        Check.due(name + " from the south pole", 125000000L, area.of(-90, -85, -20, -10));
        Check.due(name + " of one cell", 1000L * (10000 + 9900), area.of(0, 1, 0, 1));
        Check.due(name + " of a southern cell", 1000L * (10000 + 9900), area.of(-1, 0, 0, 1));
        Check.due(name + " without height", 0L, area.of(17, 17, -180, 180));
        Check.due(name + " without breadth", 0L, area.of(-90, 90, 180, 180));
        Check.due(name + " at a pole", 0L, area.of(90, 90, -180, -180));
        Check.due(name + " of all", 2 * 360 * 100L * 1000 * 9900, area.of(-90, 90, -180, 180));
        for (int row = 1; row <= 9; row++) {
            atlas.table(row, 1000, 1000 * row);
        }
        atlas.table(9, 1000, 9999);
        Check.due(name + " of the greatest map", 360L * 20000 * 199980,
                area.of(-90, 90, -180, 180));
    }

    private static void fieldsAreRefused(String name, Measure area) {
        int[][] wrong = {
            {-91, 0, 0, 1}, {0, 91, 0, 1}, {1, 0, 0, 1}, {91, 92, 0, 1}, {-92, -91, 0, 1},
            {0, 1, -181, 0}, {0, 1, 0, 181}, {0, 1, 1, 0}, {0, 1, 181, 182}, {0, 0, -182, -181},
            {Integer.MIN_VALUE, 0, 0, 1}, {0, Integer.MAX_VALUE, 0, 1},
            {0, 1, Integer.MIN_VALUE, 0}, {0, 1, 0, Integer.MAX_VALUE},
            {Integer.MAX_VALUE, Integer.MIN_VALUE, Integer.MAX_VALUE, Integer.MIN_VALUE}};
        for (int[] w : wrong) {
            Check.argument(name + java.util.Arrays.toString(w),
                    () -> area.of(w[0], w[1], w[2], w[3]));
        }
    }

    private static void fieldsAreTheSumsOfTheirCells() {
        AtlasFolder atlas = new AtlasFolder();
        atlas.table(2, 17, 1501);
        atlas.table(5, 999, 5003);
        atlas.table(6, 0, 6997);
        for (int south = -90; south <= 90; south += 7) {
            for (int north = south; north <= 90; north += 11) {
                long sum = 0;
                for (int cell = south; cell < north; cell++) {
                    sum += atlas.area(cell, cell + 1, 5, 6);
                }
                Check.due("area of strips", 21 * sum, atlas.area(south, north, -8, 13));
                Check.due("areaByCells of strips", 21 * sum,
                        atlas.areaByCells(south, north, -8, 13));
            }
        }
    }

    private static void truthIsReplaced() {
        AtlasFolder atlas = new AtlasFolder();
        Check.due("truth(8, 1)", 1000, atlas.truth(8, 1));
        Check.due("truth(8, 99999)", 1, atlas.truth(8, 99999));
        Check.due("truth(0, 7)", 1000, atlas.truth(0, 7));
        Check.due("truth(8, 99999) again", 99999, atlas.truth(8, 99999));
        Check.due("truth(0, 8)", 7, atlas.truth(0, 8));
    }

    private static void truthRefuses() {
        AtlasFolder atlas = new AtlasFolder();
        int[] noBands = {-1, 9, Integer.MIN_VALUE, Integer.MAX_VALUE};
        for (int band : noBands) {
            Check.index("truth(" + band + ", 1)", () -> atlas.truth(band, 1));
            Check.index("truth(" + band + ", 0)", () -> atlas.truth(band, 0));
            Check.index("stretch(" + band + ")", () -> atlas.stretch(band));
        }
        int[] noTruths = {0, -1, 100000, Integer.MIN_VALUE, Integer.MAX_VALUE};
        for (int truth : noTruths) {
            Check.argument("truth(3, " + truth + ")", () -> atlas.truth(3, truth));
        }
        Check.due("truth after what threw", 1000, atlas.truth(3, 1000));
    }

    private static void mapKeepsAreas() {
        AtlasFolder atlas = new AtlasFolder();
        for (int row = 1; row <= 9; row++) {
            atlas.table(row, 1000, 50 * row * (row + 1));
        }
        Check.due("keepsAreas, equal truths", false, atlas.keepsAreas());
        for (int band = 0; band <= 8; band++) {
            atlas.truth(band, 300 * (band + 1));
        }
        Check.due("keepsAreas, due truths", true, atlas.keepsAreas());
        for (int band = 0; band <= 8; band++) {
            int before = atlas.truth(band, 300 * (band + 1) + 1);
            Check.due("keepsAreas, band " + band + " too true", false, atlas.keepsAreas());
            atlas.truth(band, before);
        }
        Check.due("keepsAreas, due truths again", true, atlas.keepsAreas());
    }

    private static void emptyBandsAreComparedToo() {
        AtlasFolder atlas = new AtlasFolder();
        for (int row = 0; row <= 9; row++) {
            atlas.table(row, 0, 1000 * row);
        }
        atlas.truth(4, 99999);
        Check.due("keepsAreas of nothing", true, atlas.keepsAreas());
        Check.due("widest of nothing", 0, atlas.widest());
        Check.due("stretch of nothing", 0.0f, atlas.stretch(4));
        atlas.table(9, 1, 9000);
        Check.due("keepsAreas of something", false, atlas.keepsAreas());
        Check.due("widest of something", 8, atlas.widest());
    }

    private static void widestIsTheLowestOfSeveral() {
        AtlasFolder atlas = new AtlasFolder();
        Check.due("widest at first", 0, atlas.widest());
        for (int row = 1; row <= 9; row++) {
            atlas.table(row, 1000, 1000 * row);
        }
        Check.due("widest of alike bands", 0, atlas.widest());
        atlas.truth(0, 1001);
        Check.due("widest of eight", 1, atlas.widest());
        atlas.truth(7, 500);
        atlas.truth(5, 500);
        Check.due("widest of two", 5, atlas.widest());
        atlas.truth(8, 499);
        Check.due("widest alone", 8, atlas.widest());
    }

    /** 2000 * 964 / 97433 is less than 1999 * 903 / 91222, but the same in floats. */
    private static void fractionsAreComparedExactly() {
        AtlasFolder atlas = new AtlasFolder();
        for (int row = 1; row <= 8; row++) {
            atlas.table(row, 1000, 964 * row);
            atlas.truth(row - 1, 97433);
        }
        atlas.table(9, 999, 964 * 8 + 903);
        atlas.truth(8, 91222);
        Check.due("one stretch", atlas.stretch(0), atlas.stretch(8));
        Check.due("widest of close fractions", 8, atlas.widest());
        Check.due("keepsAreas of close fractions", false, atlas.keepsAreas());
    }

    private static void stretchIsAFloat() {
        AtlasFolder atlas = new AtlasFolder();
        Check.due("stretch(0)", 6.84E7f, atlas.stretch(0));
        Check.due("stretch(8)", (float) 10800000000L / 1000f, atlas.stretch(8));
        atlas.table(9, 1000, 9999);
        atlas.truth(8, 7);
        float due = (float) (36000L * 1200 * 1999) / (float) 7;
        Check.due("stretch(8), odd", due, atlas.stretch(8));
        for (int row = 1; row <= 9; row++) {
            atlas.table(row, 1000, 1000 * row);
        }
        atlas.truth(3, 1);
        Check.due("stretch(3)", 7.1999995904E10f, atlas.stretch(3));
        atlas.truth(3, 2000);
        Check.due("stretch(3), in floats", 3.5999996E7f, atlas.stretch(3));
    }
}
