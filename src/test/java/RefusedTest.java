import java.util.function.Consumer;
import java.util.function.Supplier;

/**
 * The calls that are refused, promise by promise: the first values outside of each range on both
 * sides and the farthest ones, what the state of the atlas refuses, the exception that is listed
 * first where two apply, and that nothing has changed after it.
 */
final class RefusedTest {

    private static final int LEAST = Integer.MIN_VALUE;
    private static final int GREATEST = Integer.MAX_VALUE;
    private static final String INDEX = "throws.IndexOutOfBoundsException";
    private static final String ARGUMENT = "throws.IllegalArgumentException";
    private static final String STATE = "throws.IllegalStateException";

    private static final int[] NO_LATITUDES = {-91, 91, LEAST, GREATEST};
    private static final int[] NO_LONGITUDES = {-181, 180, LEAST, GREATEST};
    private static final int[] NO_BANDS = {-1, 9, LEAST, GREATEST};

    private static final int[] WORN_WIDTHS = {990, 1000, 17, 700, 599, 500, 0, 303, 200, 5};
    private static final int[] WORN_HEIGHTS =
            {0, 1000, 1777, 3000, 4321, 5000, 6000, 7000, 8000, 9998};

    private static String newSeen;
    private static String wornSeen;

    private RefusedTest() {
    }

    static void run() {
        Check.noPromise();
        newSeen = Seen.of(new AtlasFolder());
        wornSeen = Seen.of(worn());
        Check.isTrue("the worn atlas is unlike a new one", !newSeen.equals(wornSeen));
        tableHasNoSuchRow();
        tableIsOutOfRange();
        tableWouldNotRise();
        pointsAreOutOfRange();
        latitudeAtIsOutOfRange();
        latitudeAtIsBelowTheMap();
        fieldsAreOutOfRange();
        bandsAndTruths();
        waysAreOutOfRange();
        breadthsDoNotDivide();
        sheetsAreOutOfRange();
        foldsHaveNoPanelsOnOneSide();
        sheetHasNoSuchPanel();
    }

    /** All that can be set is set to something else than at first; 4 by 3 panels, 3 folds. */
    private static AtlasFolder worn() {
        AtlasFolder atlas = new AtlasFolder();
        for (int row = 9; row >= 0; row--) {
            atlas.table(row, WORN_WIDTHS[row], WORN_HEIGHTS[row]);
        }
        for (int band = 0; band <= 8; band++) {
            atlas.truth(band, 11 + 1000 * band);
        }
        atlas.zones(24);
        atlas.sheet(4, 3);
        atlas.foldColumns(1);
        atlas.foldRows(2);
        atlas.foldColumns(3);
        return atlas;
    }

    private static void refused(
            String due, String what, Supplier<AtlasFolder> maker, String seen,
            Consumer<AtlasFolder> use) {
        AtlasFolder atlas = maker.get();
        Check.due(what, due, Check.answer(() -> {
            use.accept(atlas);
            return "an answer";
        }));
        Check.due("the atlas after " + what, seen, Seen.of(atlas));
    }

    private static void refusedByNew(String due, String what, Consumer<AtlasFolder> use) {
        refused(due, what + " of a new atlas", AtlasFolder::new, newSeen, use);
    }

    private static void refusedByWorn(String due, String what, Consumer<AtlasFolder> use) {
        refused(due, what + " of a worn atlas", RefusedTest::worn, wornSeen, use);
    }

    private static void refusedByBoth(String due, String what, Consumer<AtlasFolder> use) {
        refusedByNew(due, what, use);
        refusedByWorn(due, what, use);
    }

    private static void refusedTable(String due, int row, int width, int height) {
        refusedByBoth(due, "table(" + row + ", " + width + ", " + height + ")",
                atlas -> atlas.table(row, width, height));
    }

    private static void tableHasNoSuchRow() {
        Check.promise(2);
        int[] noRows = {-1, 10, LEAST, GREATEST};
        int[] widths = {500, -1, 1001};
        int[] heights = {5000, 0, 9999, -1, 10000};
        for (int row : noRows) {
            for (int width : widths) {
                for (int height : heights) {
                    refusedTable(INDEX, row, width, height);
                }
            }
        }
    }

    private static void tableIsOutOfRange() {
        Check.promise(2);
        int[] noWidths = {-1, 1001, LEAST, GREATEST};
        int[] noHeights = {-1, 10000, LEAST, GREATEST};
        for (int row = 0; row <= 9; row++) {
            for (int width : noWidths) {
                refusedTable(ARGUMENT, row, width, WORN_HEIGHTS[row]);
                // The heights would not rise either: the width is looked at first.
                refusedTable(ARGUMENT, row, width, row == 0 ? 1 : 0);
            }
            for (int height : noHeights) {
                // The heights would not rise either, but above the row 9.
                refusedTable(ARGUMENT, row, 500, height);
            }
        }
    }

    private static void tableWouldNotRise() {
        Check.promise(2);
        refusedTable(STATE, 0, 1000, 1);
        refusedTable(STATE, 0, 1000, 1000);
        refusedTable(STATE, 0, 1000, 9999);
        for (int row = 1; row <= 9; row++) {
            refusedTableOfBoth(row, row - 1, 0);
            refusedTableOfBoth(row, row - 1, row == 1 ? 0 : -1);
            refusedTable(STATE, row, 1000, 0);
            if (row < 9) {
                refusedTableOfBoth(row, row + 1, 0);
                refusedTableOfBoth(row, row + 1, 1);
                refusedTable(STATE, row, 0, 9999);
            }
        }
    }

    /** A height as that of another row, or beyond it. */
    private static void refusedTableOfBoth(int row, int other, int beyond) {
        String what = "table of the row " + row + " at the row " + other + " and " + beyond;
        refusedByNew(STATE, what, atlas -> atlas.table(row, 500, 1000 * other + beyond));
        refusedByWorn(STATE, what, atlas -> atlas.table(row, 500, WORN_HEIGHTS[other] + beyond));
    }

    private static void pointsAreOutOfRange() {
        for (int no : NO_LATITUDES) {
            Check.promise(3);
            refusedByBoth(ARGUMENT, "x(" + no + ", 0)", atlas -> atlas.x(no, 0));
            refusedByBoth(ARGUMENT, "x(" + no + ", 180)", atlas -> atlas.x(no, 180));
            Check.promise(4);
            refusedByBoth(ARGUMENT, "y(" + no + ")", atlas -> atlas.y(no));
            Check.promise(22);
            refusedByBoth(ARGUMENT, "panel(" + no + ", 0)", atlas -> atlas.panel(no, 0));
            refusedByBoth(ARGUMENT, "panel(" + no + ", -181)", atlas -> atlas.panel(no, -181));
        }
        for (int no : NO_LONGITUDES) {
            Check.promise(3);
            refusedByBoth(ARGUMENT, "x(0, " + no + ")", atlas -> atlas.x(0, no));
            refusedByBoth(ARGUMENT, "x(-90, " + no + ")", atlas -> atlas.x(-90, no));
            Check.promise(22);
            refusedByBoth(ARGUMENT, "panel(0, " + no + ")", atlas -> atlas.panel(0, no));
            refusedByBoth(ARGUMENT, "panel(90, " + no + ")", atlas -> atlas.panel(90, no));
        }
    }

    private static void latitudeAtIsOutOfRange() {
        Check.promise(5);
        // All of the map is above the low ones of these places: the range is looked at first.
        int[] noHeights = {-99991, 99991, LEAST, GREATEST};
        for (int no : noHeights) {
            refusedByBoth(ARGUMENT, "latitudeAt(" + no + ")", atlas -> atlas.latitudeAt(no));
        }
    }

    private static void latitudeAtIsBelowTheMap() {
        Check.promise(5);
        int newPole = -90000;
        int wornPole = -99980;
        refusedByNew(STATE, "latitudeAt just below the pole", a -> a.latitudeAt(newPole - 1));
        refusedByWorn(STATE, "latitudeAt just below the pole", a -> a.latitudeAt(wornPole - 1));
        refusedByBoth(STATE, "latitudeAt(-99990)", atlas -> atlas.latitudeAt(-99990));
    }

    private static void fieldsAreOutOfRange() {
        int[][] wrong = {
            {-91, 0, 0, 1}, {-91, -91, 0, 1}, {LEAST, 0, 0, 1},
            {0, 91, 0, 1}, {91, 91, 0, 1}, {0, GREATEST, 0, 1},
            {1, 0, 0, 1}, {90, 89, 0, 1}, {-89, -90, 0, 1}, {90, -90, 0, 1},
            {0, 1, -181, 0}, {0, 1, -181, -181}, {0, 1, LEAST, 0},
            {0, 1, 0, 181}, {0, 1, 181, 181}, {0, 1, 0, GREATEST},
            {0, 1, 1, 0}, {0, 1, 180, 179}, {0, 1, -179, -180}, {0, 1, 180, -180},
            {0, 0, 1, 0}, {1, 0, 0, 0}, {GREATEST, LEAST, GREATEST, LEAST},
            {LEAST, GREATEST, LEAST, GREATEST}};
        for (int[] w : wrong) {
            String field = "(" + w[0] + ", " + w[1] + ", " + w[2] + ", " + w[3] + ")";
            Check.promise(6);
            refusedByBoth(ARGUMENT, "area" + field, a -> a.area(w[0], w[1], w[2], w[3]));
            Check.promise(7);
            refusedByBoth(ARGUMENT, "areaByCells" + field,
                    a -> a.areaByCells(w[0], w[1], w[2], w[3]));
        }
    }

    private static void bandsAndTruths() {
        int[] noTruths = {0, -1, 100000, LEAST, GREATEST};
        for (int no : NO_BANDS) {
            Check.promise(8);
            refusedByBoth(INDEX, "truth(" + no + ", 1)", atlas -> atlas.truth(no, 1));
            for (int truth : noTruths) {
                refusedByBoth(INDEX, "truth(" + no + ", " + truth + ")", a -> a.truth(no, truth));
            }
            Check.promise(11);
            refusedByBoth(INDEX, "stretch(" + no + ")", atlas -> atlas.stretch(no));
        }
        Check.promise(8);
        for (int band = 0; band <= 8; band++) {
            int of = band;
            for (int no : noTruths) {
                refusedByBoth(ARGUMENT, "truth(" + of + ", " + no + ")", a -> a.truth(of, no));
            }
        }
    }

    private static void waysAreOutOfRange() {
        Check.promise(13);
        for (int no : NO_LATITUDES) {
            refusedByBoth(ARGUMENT, "ringWay(" + no + ", 0, 0)", a -> a.ringWay(no, 0, 0));
        }
        for (int no : NO_LONGITUDES) {
            refusedByBoth(ARGUMENT, "ringWay(0, " + no + ", 0)", a -> a.ringWay(0, no, 0));
            refusedByBoth(ARGUMENT, "ringWay(0, 0, " + no + ")", a -> a.ringWay(0, 0, no));
            refusedByBoth(ARGUMENT, "ringWay(91, " + no + ", 0)", a -> a.ringWay(91, no, 0));
        }
        for (int no : NO_LONGITUDES) {
            Check.promise(12);
            refusedByBoth(ARGUMENT, "apart(" + no + ", 0)", a -> a.apart(no, 0));
            refusedByBoth(ARGUMENT, "apart(0, " + no + ")", a -> a.apart(0, no));
            refusedByBoth(ARGUMENT, "apart(" + no + ", it)", a -> a.apart(no, no));
            Check.promise(15);
            refusedByBoth(ARGUMENT, "zone(" + no + ")", a -> a.zone(no));
            Check.promise(16);
            refusedByBoth(ARGUMENT, "seams(" + no + ", 0)", a -> a.seams(no, 0));
            refusedByBoth(ARGUMENT, "seams(0, " + no + ")", a -> a.seams(0, no));
            refusedByBoth(ARGUMENT, "seams(" + no + ", it)", a -> a.seams(no, no));
            Check.promise(17);
            refusedByBoth(ARGUMENT, "dateLine(" + no + ", 0)", a -> a.dateLine(no, 0));
            refusedByBoth(ARGUMENT, "dateLine(0, " + no + ")", a -> a.dateLine(0, no));
            refusedByBoth(ARGUMENT, "dateLine(" + no + ", it)", a -> a.dateLine(no, no));
        }
    }

    private static void breadthsDoNotDivide() {
        Check.promise(14);
        for (int breadth = -1; breadth <= 361; breadth++) {
            int no = breadth;
            if (no < 1 || no > 360 || 360 % no != 0) {
                refusedByBoth(ARGUMENT, "zones(" + no + ")", atlas -> atlas.zones(no));
            }
        }
        int[] farther = {-15, -360, 720, LEAST, GREATEST};
        for (int no : farther) {
            refusedByBoth(ARGUMENT, "zones(" + no + ")", atlas -> atlas.zones(no));
        }
    }

    private static void sheetsAreOutOfRange() {
        Check.promise(18);
        int[] noSides = {0, 7, -1, LEAST, GREATEST};
        for (int no : noSides) {
            refusedByBoth(ARGUMENT, "sheet(" + no + ", 1)", atlas -> atlas.sheet(no, 1));
            refusedByBoth(ARGUMENT, "sheet(" + no + ", 6)", atlas -> atlas.sheet(no, 6));
            refusedByBoth(ARGUMENT, "sheet(1, " + no + ")", atlas -> atlas.sheet(1, no));
            refusedByBoth(ARGUMENT, "sheet(6, " + no + ")", atlas -> atlas.sheet(6, no));
            refusedByBoth(ARGUMENT, "sheet(" + no + ", it)", atlas -> atlas.sheet(no, no));
        }
    }

    private static void foldsHaveNoPanelsOnOneSide() {
        // The one panel of a new atlas lies at (0, 0), the worn ones at x 3 and 4 and y 2 and 3.
        int[] any = {LEAST, LEAST + 1, -1, 0, 1, 2, GREATEST - 1, GREATEST};
        int[] noColumns = {LEAST, LEAST + 1, -1, 0, 1, 2, 3, 5, 6, GREATEST - 1, GREATEST};
        int[] noRows = {LEAST, LEAST + 1, -1, 0, 1, 2, 4, 5, GREATEST - 1, GREATEST};
        Check.promise(19);
        for (int no : any) {
            refusedByNew(STATE, "foldColumns(" + no + ")", atlas -> atlas.foldColumns(no));
        }
        for (int no : noColumns) {
            refusedByWorn(STATE, "foldColumns(" + no + ")", atlas -> atlas.foldColumns(no));
        }
        Check.due("foldColumns(4) between the worn panels", 6, worn().foldColumns(4));
        Check.promise(20);
        for (int no : any) {
            refusedByNew(STATE, "foldRows(" + no + ")", atlas -> atlas.foldRows(no));
        }
        for (int no : noRows) {
            refusedByWorn(STATE, "foldRows(" + no + ")", atlas -> atlas.foldRows(no));
        }
        Check.due("foldRows(3) between the worn panels", 8, worn().foldRows(3));
    }

    private static void sheetHasNoSuchPanel() {
        int[][] wrong = {{-1, 0}, {4, 0}, {0, -1}, {0, 3}, {4, 3}, {-1, -1}, {4, 2}, {3, 3},
            {5, 5}, {6, 6}, {1, 11}, {LEAST, 0}, {0, LEAST}, {GREATEST, 0}, {0, GREATEST},
            {LEAST, LEAST}, {GREATEST, GREATEST}};
        for (int[] w : wrong) {
            String panel = "(" + w[0] + ", " + w[1] + ")";
            Check.promise(23);
            refusedByBoth(INDEX, "placeX" + panel, atlas -> atlas.placeX(w[0], w[1]));
            Check.promise(24);
            refusedByBoth(INDEX, "placeY" + panel, atlas -> atlas.placeY(w[0], w[1]));
            Check.promise(25);
            refusedByBoth(INDEX, "above" + panel, atlas -> atlas.above(w[0], w[1]));
            Check.promise(26);
            refusedByBoth(INDEX, "isUp" + panel, atlas -> atlas.isUp(w[0], w[1]));
        }
        noSuchPanelOfAnySheet();
    }

    /** The panels of a sheet before are there no more, however great it was. */
    private static void noSuchPanelOfAnySheet() {
        for (int columns = 1; columns <= 6; columns++) {
            for (int rows = 1; rows <= 6; rows++) {
                AtlasFolder atlas = new AtlasFolder();
                atlas.sheet(6, 6);
                atlas.sheet(columns, rows);
                int[][] wrong = {{columns, 0}, {columns, rows - 1}, {0, rows}, {columns - 1, rows}};
                for (int[] w : wrong) {
                    String of = "(" + w[0] + ", " + w[1] + ") of " + columns + " by " + rows;
                    Check.promise(23);
                    Check.due("placeX" + of, INDEX, Check.answer(() -> atlas.placeX(w[0], w[1])));
                    Check.promise(24);
                    Check.due("placeY" + of, INDEX, Check.answer(() -> atlas.placeY(w[0], w[1])));
                    Check.promise(25);
                    Check.due("above" + of, INDEX, Check.answer(() -> atlas.above(w[0], w[1])));
                    Check.promise(26);
                    Check.due("isUp" + of, INDEX, Check.answer(() -> atlas.isUp(w[0], w[1])));
                }
            }
        }
    }
}
