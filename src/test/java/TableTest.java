/** Promises 1 to 5: a new object, table, x, y, latitudeAt. RefusedTest has what they refuse. */
final class TableTest {

    private TableTest() {
    }

    static void run() {
        newObjectHasTheFirstTable();
        newObjectHasTheFirstTruthsAndZones();
        newObjectHasAnUnfoldedSheet();
        objectsAreApart();
        tableTakesTheEndsOfItsRanges();
        tableTakesHeightsNextToTheirNeighbours();
        tableChangesItsRowAlone();
        xTakesTheEndsOfItsRanges();
        xLiesOnStraightLines();
        xOfTheGreatestAndTheLeastWidth();
        yTakesTheEndsOfItsRange();
        yLiesOnStraightLines();
        latitudeAtFindsTheGreatestNotAbove();
        latitudeAtTakesTheEndsOfItsRange();
        latitudeAtOfTheFlattestMap();
        latitudeAtFollowsTheTable();
    }

    private static void newObjectHasTheFirstTable() {
        Check.promise(1);
        AtlasFolder atlas = new AtlasFolder();
        for (int row = 0; row <= 9; row++) {
            Check.due("first width " + row, 10 * (1000 - 100 * row), atlas.x(10 * row, 1));
            Check.due("first height " + row, 10 * 1000 * row, atlas.y(10 * row));
        }
    }

    private static void newObjectHasTheFirstTruthsAndZones() {
        Check.promise(1);
        AtlasFolder atlas = new AtlasFolder();
        Check.due("first breadth", 15, atlas.zones(15));
        for (int band = 0; band <= 8; band++) {
            Check.due("first truth " + band, 1000, atlas.truth(band, 5));
        }
    }

    private static void newObjectHasAnUnfoldedSheet() {
        Check.promise(1);
        AtlasFolder atlas = new AtlasFolder();
        Check.due("panel of the north west", 0, atlas.panel(90, -180));
        Check.due("panel of the south east", 0, atlas.panel(-90, 179));
        Check.due("x of the panel", 0, atlas.placeX(0, 0));
        Check.due("y of the panel", 0, atlas.placeY(0, 0));
        Check.due("above the panel", 0, atlas.above(0, 0));
        Check.due("the panel is up", true, atlas.isUp(0, 0));
        Check.due("thickness", 1, atlas.thickness());
        Check.due("readable", 1, atlas.readable());
        Check.due("folds", 0, atlas.unfold());
    }

    private static void objectsAreApart() {
        Check.promise(1);
        AtlasFolder untouched = new AtlasFolder();
        AtlasFolder atlas = new AtlasFolder();
        atlas.table(0, 1, 0);
        atlas.truth(0, 1);
        atlas.zones(1);
        atlas.sheet(6, 6);
        atlas.foldRows(3);
        Check.due("another atlas", Seen.of(new AtlasFolder()), Seen.of(untouched));
    }

    private static void tableTakesTheEndsOfItsRanges() {
        Check.promise(2);
        AtlasFolder atlas = new AtlasFolder();
        for (int row = 0; row <= 9; row++) {
            atlas.table(row, 0, 1000 * row);
            Check.due("width 0 of the row " + row, 0, atlas.x(10 * row, 179));
            atlas.table(row, 1000, 1000 * row);
            Check.due("width 1000 of the row " + row, 10000, atlas.x(10 * row, 1));
        }
        atlas.table(9, 1000, 9999);
        Check.due("height 9999", 99990, atlas.y(90));
        atlas.table(0, 1000, 0);
        Check.due("height 0", 0, atlas.y(0));
    }

    private static void tableTakesHeightsNextToTheirNeighbours() {
        Check.promise(2);
        AtlasFolder atlas = new AtlasFolder();
        for (int row = 1; row <= 9; row++) {
            atlas.table(row, 500, 1000 * (row - 1) + 1);
            Check.due("just above the row before", 10000 * (row - 1) + 10, atlas.y(10 * row));
            if (row < 9) {
                atlas.table(row, 500, 1000 * (row + 1) - 1);
                Check.due("just below the row behind", 10000 * (row + 1) - 10, atlas.y(10 * row));
            }
            atlas.table(row, 500, 1000 * row);
            atlas.table(row, 500, 1000 * row);
            Check.due("the same height once more", 10000 * row, atlas.y(10 * row));
        }
    }

    private static void tableChangesItsRowAlone() {
        Check.promise(2);
        for (int row = 0; row <= 9; row++) {
            AtlasFolder atlas = new AtlasFolder();
            int height = row == 0 ? 0 : 1000 * row - 3;
            atlas.table(row, 77, height);
            for (int other = 0; other <= 9; other++) {
                boolean set = other == row;
                Check.due("width of " + other + " after a table of " + row,
                        set ? 770 : 10 * (1000 - 100 * other), atlas.x(10 * other, 1));
                Check.due("height of " + other + " after a table of " + row,
                        set ? 10 * height : 10000 * other, atlas.y(10 * other));
            }
        }
    }

    private static void xTakesTheEndsOfItsRanges() {
        Check.promise(3);
        AtlasFolder atlas = new AtlasFolder();
        Check.due("x(90, -180)", -180000, atlas.x(90, -180));
        Check.due("x(90, 179)", 179000, atlas.x(90, 179));
        Check.due("x(-90, -180)", -180000, atlas.x(-90, -180));
        Check.due("x(-90, 179)", 179000, atlas.x(-90, 179));
        Check.due("x(0, -180)", -1800000, atlas.x(0, -180));
        Check.due("x(0, 179)", 1790000, atlas.x(0, 179));
        Check.due("x(57, 0)", 0, atlas.x(57, 0));
        Check.due("x(57, -1)", -4300, atlas.x(57, -1));
        Check.due("x(57, 1)", 4300, atlas.x(57, 1));
    }

    private static void xLiesOnStraightLines() {
        Check.promise(3);
        AtlasFolder atlas = new AtlasFolder();
        atlas.table(3, 1000, 3000);
        atlas.table(4, 3, 4000);
        for (int past = 0; past <= 9; past++) {
            int due = (10 - past) * 1000 + past * 3;
            Check.due("x(3" + past + ", 1)", due, atlas.x(30 + past, 1));
            Check.due("x(-3" + past + ", -100)", -100 * due, atlas.x(-30 - past, -100));
        }
        Check.due("x(29, 1)", 800 + 9 * 1000, atlas.x(29, 1));
        Check.due("x(41, 1)", 9 * 3 + 500, atlas.x(41, 1));
        Check.due("x(89, 1)", 200 + 9 * 100, atlas.x(89, 1));
        Check.due("x(-1, 1)", 9 * 1000 + 900, atlas.x(-1, 1));
    }

    private static void xOfTheGreatestAndTheLeastWidth() {
        Check.promise(3);
        AtlasFolder atlas = new AtlasFolder();
        atlas.table(8, 0, 8000);
        atlas.table(9, 0, 9000);
        Check.due("x(85, -180) without width", 0, atlas.x(85, -180));
        Check.due("x(-90, 179) without width", 0, atlas.x(-90, 179));
        atlas.table(9, 1000, 9000);
        Check.due("x(90, -180) of the greatest width", -1800000, atlas.x(90, -180));
        Check.due("x(-89, 10) between both", 90000, atlas.x(-89, 10));
    }

    private static void yTakesTheEndsOfItsRange() {
        Check.promise(4);
        AtlasFolder atlas = new AtlasFolder();
        Check.due("y(90)", 90000, atlas.y(90));
        Check.due("y(-90)", -90000, atlas.y(-90));
        Check.due("y(0)", 0, atlas.y(0));
        Check.due("y(1)", 1000, atlas.y(1));
        Check.due("y(-1)", -1000, atlas.y(-1));
        atlas.table(9, 0, 9999);
        Check.due("y(90) of the highest map", 99990, atlas.y(90));
        Check.due("y(-90) of the highest map", -99990, atlas.y(-90));
    }

    private static void yLiesOnStraightLines() {
        Check.promise(4);
        AtlasFolder atlas = new AtlasFolder();
        atlas.table(2, 800, 1999);
        for (int past = 0; past <= 9; past++) {
            int due = (10 - past) * 1000 + past * 1999;
            Check.due("y(1" + past + ")", due, atlas.y(10 + past));
            Check.due("y(-1" + past + ")", -due, atlas.y(-10 - past));
        }
        Check.due("y(9)", 9000, atlas.y(9));
        Check.due("y(-9)", -9000, atlas.y(-9));
        Check.due("y(21)", 9 * 1999 + 3000, atlas.y(21));
        Check.due("y(-89)", -89000, atlas.y(-89));
    }

    private static void latitudeAtFindsTheGreatestNotAbove() {
        Check.promise(5);
        AtlasFolder atlas = new AtlasFolder();
        AtlasFolder below = new AtlasFolder();
        for (int latitude = -90; latitude <= 90; latitude++) {
            Check.due("latitudeAt its y", latitude, atlas.latitudeAt(1000 * latitude));
            Check.due("latitudeAt just before the next", latitude,
                    atlas.latitudeAt(1000 * latitude + 999));
            if (latitude > -90) {
                Check.due("latitudeAt just below its y", latitude - 1,
                        below.latitudeAt(1000 * latitude - 1));
            }
        }
    }

    private static void latitudeAtTakesTheEndsOfItsRange() {
        Check.promise(5);
        AtlasFolder atlas = new AtlasFolder();
        Check.due("latitudeAt(99990) above the map", 90, atlas.latitudeAt(99990));
        Check.due("latitudeAt(90001) above the map", 90, atlas.latitudeAt(90001));
        atlas.table(9, 0, 9999);
        Check.due("latitudeAt(99990) at the pole", 90, atlas.latitudeAt(99990));
        Check.due("latitudeAt(99989) below it", 89, atlas.latitudeAt(99989));
        Check.due("latitudeAt(-99990) at the pole", -90, atlas.latitudeAt(-99990));
        Check.due("latitudeAt(-99989) above it", -90, atlas.latitudeAt(-99989));
    }

    /** Neighbouring latitudes are one tenth apart: 10 times y is the latitude. */
    private static void latitudeAtOfTheFlattestMap() {
        Check.promise(5);
        AtlasFolder atlas = new AtlasFolder();
        for (int row = 1; row <= 9; row++) {
            atlas.table(row, 0, row);
        }
        for (int latitude = -90; latitude <= 90; latitude++) {
            Check.due("latitudeAt of the flattest map", latitude, atlas.latitudeAt(latitude));
        }
        Check.due("latitudeAt(91)", 90, atlas.latitudeAt(91));
        Check.due("latitudeAt(99990)", 90, atlas.latitudeAt(99990));
        Check.due("latitudeAt(-91)", "throws.IllegalStateException",
                Check.answer(() -> atlas.latitudeAt(-91)));
    }

    private static void latitudeAtFollowsTheTable() {
        Check.promise(5);
        AtlasFolder atlas = new AtlasFolder();
        atlas.table(1, 900, 1999);
        Check.due("latitudeAt(1998)", 0, atlas.latitudeAt(1998));
        Check.due("latitudeAt(1999)", 1, atlas.latitudeAt(1999));
        Check.due("latitudeAt(-1)", -1, atlas.latitudeAt(-1));
        Check.due("latitudeAt(-1999)", -1, atlas.latitudeAt(-1999));
        Check.due("latitudeAt(-2000)", -2, atlas.latitudeAt(-2000));
        Check.due("latitudeAt(19990)", 10, atlas.latitudeAt(19990));
        Check.due("latitudeAt(19989)", 9, atlas.latitudeAt(19989));
        Check.due("latitudeAt(19991)", 11, atlas.latitudeAt(19991));
        Check.due("latitudeAt(-19991)", -11, atlas.latitudeAt(-19991));
        Check.due("latitudeAt(-19992)", -12, atlas.latitudeAt(-19992));
    }
}
