/** Promises 1 to 5: a new object, table, x, y, latitudeAt. */
final class TableTest {

    private TableTest() {
    }

    static void run() {
        newObjectHasTheFirstTable();
        tableSetsARow();
        tableRefusesInTheListedOrder();
        tableThatThrowsChangesNothing();
        xLiesOnStraightLines();
        yLiesOnStraightLines();
        latitudeAtFindsTheGreatest();
        latitudeAtRefuses();
    }

    private static void newObjectHasTheFirstTable() {
        AtlasFolder atlas = new AtlasFolder();
        for (int row = 0; row <= 9; row++) {
            Check.due("first width " + row, 10 * (1000 - 100 * row), atlas.x(10 * row, 1));
            Check.due("first height " + row, 10 * 1000 * row, atlas.y(10 * row));
        }
        Check.due("first breadth", 15, atlas.zones(15));
        for (int band = 0; band <= 8; band++) {
            Check.due("first truth " + band, 1000, atlas.truth(band, 5));
        }
        Check.due("first folds", 0, atlas.unfold());
        Check.due("first sheet", 0, atlas.panel(-90, 179));
        Check.index("first sheet has one column", () -> atlas.placeX(1, 0));
        Check.index("first sheet has one row", () -> atlas.placeX(0, 1));
        Check.due("first panel", 0, atlas.placeX(0, 0));
        Check.due("first panel is up", true, atlas.isUp(0, 0));
    }

    private static void set(AtlasFolder atlas, int row, int width, int height) {
        Check.due("table(" + row + ", " + width + ", " + height + ")", "set",
                Check.answer(() -> tried(atlas, row, width, height)));
    }

    private static Object tried(AtlasFolder atlas, int row, int width, int height) {
        atlas.table(row, width, height);
        return "set";
    }

    private static void tableSetsARow() {
        AtlasFolder atlas = new AtlasFolder();
        set(atlas, 9, 0, 9999);
        Check.due("highest pole", 99990, atlas.y(90));
        Check.due("lowest pole", -99990, atlas.y(-90));
        Check.due("narrowest pole", 0, atlas.x(90, 179));
        set(atlas, 9, 1000, 8001);
        Check.due("lowest height over the row 8", 80010, atlas.y(90));
        Check.due("widest pole", 1790000, atlas.x(-90, 179));
        set(atlas, 1, 7, 1);
        Check.due("lowest height over the row 0", 10, atlas.y(10));
        set(atlas, 1, 0, 1999);
        Check.due("highest height under the row 2", 19990, atlas.y(10));
        set(atlas, 0, 0, 0);
        Check.due("width of the equator", 0, atlas.x(0, 100));
        set(atlas, 4, 600, 4000);
        Check.due("the same once more", 40000, atlas.y(40));
    }

    private static void tableRefusesInTheListedOrder() {
        AtlasFolder atlas = new AtlasFolder();
        int[] noRows = {-1, 10, Integer.MIN_VALUE, Integer.MAX_VALUE};
        for (int row : noRows) {
            Check.index("table(" + row + ", ..)", () -> tried(atlas, row, 500, 5000));
            Check.index("table(" + row + ", wrong)", () -> tried(atlas, row, -1, 10000));
        }
        int[] noWidths = {-1, 1001, Integer.MIN_VALUE, Integer.MAX_VALUE};
        for (int width : noWidths) {
            Check.argument("table(4, " + width + ", ..)", () -> tried(atlas, 4, width, 4000));
            Check.argument("width before heights", () -> tried(atlas, 4, width, 3000));
        }
        int[] noHeights = {-1, 10000, Integer.MIN_VALUE, Integer.MAX_VALUE};
        for (int height : noHeights) {
            Check.argument("table(9, 0, " + height + ")", () -> tried(atlas, 9, 0, height));
            Check.argument("table(0, 0, " + height + ")", () -> tried(atlas, 0, 0, height));
        }
        Check.state("as low as the row below", () -> tried(atlas, 4, 600, 3000));
        Check.state("lower than the row below", () -> tried(atlas, 4, 600, 2999));
        Check.state("as high as the row above", () -> tried(atlas, 4, 600, 5000));
        Check.state("higher than the row above", () -> tried(atlas, 4, 600, 5001));
        Check.state("row 0 at 1", () -> tried(atlas, 0, 1000, 1));
        Check.state("row 0 above the row 1", () -> tried(atlas, 0, 1000, 2000));
        Check.state("row 1 at 0", () -> tried(atlas, 1, 900, 0));
        Check.state("row 9 as the row 8", () -> tried(atlas, 9, 0, 8000));
    }

    private static void tableThatThrowsChangesNothing() {
        AtlasFolder atlas = new AtlasFolder();
        Check.state("too low", () -> tried(atlas, 4, 1, 3000));
        Check.argument("too wide", () -> tried(atlas, 4, 1001, 4001));
        Check.argument("too high", () -> tried(atlas, 9, 1, 10000));
        Check.state("row 0", () -> tried(atlas, 0, 1, 1));
        Check.due("width of the row 0", 10000, atlas.x(0, 1));
        Check.due("width of the row 4", 6000, atlas.x(40, 1));
        Check.due("width of the row 9", 1000, atlas.x(90, 1));
        Check.due("height of the row 0", 0, atlas.y(0));
        Check.due("height of the row 4", 40000, atlas.y(40));
        Check.due("height of the row 9", 90000, atlas.y(90));
    }

    private static void xLiesOnStraightLines() {
        AtlasFolder atlas = new AtlasFolder();
        Check.due("x(35, -100)", -650000, atlas.x(35, -100));
        Check.due("x(-35, -100)", -650000, atlas.x(-35, -100));
        Check.due("x(-90, -180)", -180000, atlas.x(-90, -180));
        Check.due("x(0, 179)", 1790000, atlas.x(0, 179));
        Check.due("x(57, 0)", 0, atlas.x(57, 0));
        set(atlas, 3, 1000, 3000);
        set(atlas, 4, 3, 4000);
        Check.due("x(37, 1)", 3 * 1000 + 7 * 3, atlas.x(37, 1));
        Check.due("x(-39, -180)", -180 * (1000 + 9 * 3), atlas.x(-39, -180));
        Check.argument("x(91, 0)", () -> atlas.x(91, 0));
        Check.argument("x(-91, 0)", () -> atlas.x(-91, 0));
        Check.argument("x(0, 180)", () -> atlas.x(0, 180));
        Check.argument("x(0, -181)", () -> atlas.x(0, -181));
        Check.argument("x(least, 0)", () -> atlas.x(Integer.MIN_VALUE, 0));
        Check.argument("x(0, greatest)", () -> atlas.x(0, Integer.MAX_VALUE));
    }

    private static void yLiesOnStraightLines() {
        AtlasFolder atlas = new AtlasFolder();
        set(atlas, 2, 800, 1999);
        Check.due("y(13)", 7 * 1000 + 3 * 1999, atlas.y(13));
        Check.due("y(-13)", -7 * 1000 - 3 * 1999, atlas.y(-13));
        Check.due("y(-1)", -1000, atlas.y(-1));
        Check.due("y(0)", 0, atlas.y(0));
        Check.due("y(89)", 89000, atlas.y(89));
        Check.due("y(-90)", -90000, atlas.y(-90));
        Check.argument("y(91)", () -> atlas.y(91));
        Check.argument("y(-91)", () -> atlas.y(-91));
        Check.argument("y(least)", () -> atlas.y(Integer.MIN_VALUE));
        Check.argument("y(greatest)", () -> atlas.y(Integer.MAX_VALUE));
    }

    private static void latitudeAtFindsTheGreatest() {
        AtlasFolder atlas = new AtlasFolder();
        for (int latitude = -90; latitude <= 90; latitude++) {
            Check.due("latitudeAt its y", latitude, atlas.latitudeAt(1000 * latitude));
            Check.due("latitudeAt before the next", latitude,
                    atlas.latitudeAt(1000 * latitude + 999));
        }
        Check.due("latitudeAt(99990)", 90, atlas.latitudeAt(99990));
        Check.due("latitudeAt(-1)", -1, atlas.latitudeAt(-1));
        set(atlas, 9, 0, 9999);
        Check.due("latitudeAt(-99990)", -90, atlas.latitudeAt(-99990));
        Check.due("latitudeAt(99989)", 89, atlas.latitudeAt(99989));
    }

    private static void latitudeAtRefuses() {
        AtlasFolder atlas = new AtlasFolder();
        Check.state("latitudeAt(-90001)", () -> atlas.latitudeAt(-90001));
        Check.state("latitudeAt(-99990)", () -> atlas.latitudeAt(-99990));
        Check.argument("latitudeAt(-99991)", () -> atlas.latitudeAt(-99991));
        Check.argument("latitudeAt(99991)", () -> atlas.latitudeAt(99991));
        Check.argument("latitudeAt(least)", () -> atlas.latitudeAt(Integer.MIN_VALUE));
        Check.argument("latitudeAt(greatest)", () -> atlas.latitudeAt(Integer.MAX_VALUE));
    }
}
