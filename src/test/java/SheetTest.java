/** Promises 18 to 28: the sheet and its folds. */
final class SheetTest {

    private SheetTest() {
    }

    static void run() {
        sheetTakesOneToSix();
        sheetIsUnfolded();
        foldColumnsTurnsOver();
        foldRowsTurnsOver();
        foldNeedsBothSides();
        foldThatThrowsChangesNothing();
        foldedAsOftenAsCanBe();
        unfoldTellsTheFolds();
        panelOfAPoint();
        panelsAreRefused();
        thicknessOfAFoldedSheet();
        readableOfAFoldedSheet();
    }

    private static Object taken(AtlasFolder atlas, int columns, int rows) {
        atlas.sheet(columns, rows);
        return "taken";
    }

    private static AtlasFolder withSheet(int columns, int rows) {
        AtlasFolder atlas = new AtlasFolder();
        atlas.sheet(columns, rows);
        return atlas;
    }

    private static void sheetTakesOneToSix() {
        AtlasFolder atlas = withSheet(2, 3);
        int[] no = {0, 7, -1, Integer.MIN_VALUE, Integer.MAX_VALUE};
        for (int side : no) {
            Check.argument("sheet(" + side + ", 1)", () -> taken(atlas, side, 1));
            Check.argument("sheet(1, " + side + ")", () -> taken(atlas, 1, side));
        }
        Check.due("the sheet stays", 1, atlas.placeX(1, 2));
        Check.index("the sheet has 2 columns", () -> atlas.placeX(2, 0));
        Check.index("the sheet has 3 rows", () -> atlas.placeX(0, 3));
        for (int columns = 1; columns <= 6; columns++) {
            for (int rows = 1; rows <= 6; rows++) {
                atlas.sheet(columns, rows);
                Check.due("panels", columns * rows, atlas.readable());
                Check.due("last panel", 10 * (columns - 1) + rows - 1, atlas.panel(-90, 179));
            }
        }
    }

    private static void sheetIsUnfolded() {
        AtlasFolder atlas = withSheet(6, 6);
        atlas.foldColumns(3);
        atlas.foldRows(2);
        atlas.sheet(6, 6);
        for (int column = 0; column < 6; column++) {
            for (int row = 0; row < 6; row++) {
                Check.due("placeX", column, atlas.placeX(column, row));
                Check.due("placeY", row, atlas.placeY(column, row));
                Check.due("above", 0, atlas.above(column, row));
                Check.due("isUp", true, atlas.isUp(column, row));
            }
        }
        Check.due("thickness", 1, atlas.thickness());
        Check.due("readable", 36, atlas.readable());
        Check.due("folds of a new sheet", 0, atlas.unfold());
    }

    private static void foldColumnsTurnsOver() {
        AtlasFolder atlas = withSheet(5, 2);
        Check.due("foldColumns(2)", 4, atlas.foldColumns(2));
        int[] places = {3, 2, 2, 3, 4};
        int[] above = {0, 0, 1, 1, 0};
        for (int column = 0; column < 5; column++) {
            for (int row = 0; row < 2; row++) {
                Check.due("placeX", places[column], atlas.placeX(column, row));
                Check.due("placeY", row, atlas.placeY(column, row));
                Check.due("above", above[column], atlas.above(column, row));
                Check.due("isUp", column >= 2, atlas.isUp(column, row));
            }
        }
        Check.due("foldColumns(4)", 8, atlas.foldColumns(4));
        // The place 3 comes to 4 in the order 3, 0 on the panel 4; the place 2 to 5.
        Check.due("placeX(3)", 4, atlas.placeX(3, 0));
        Check.due("placeX(0)", 4, atlas.placeX(0, 0));
        Check.due("placeX(2)", 5, atlas.placeX(2, 1));
        Check.due("above(4)", 2, atlas.above(4, 0));
        Check.due("above(0)", 1, atlas.above(0, 0));
        Check.due("above(3)", 0, atlas.above(3, 0));
        Check.due("above(1)", 1, atlas.above(1, 1));
        Check.due("above(2)", 0, atlas.above(2, 1));
        Check.due("isUp(0)", true, atlas.isUp(0, 0));
        Check.due("isUp(3)", false, atlas.isUp(3, 0));
        Check.due("foldColumns(5)", 6, atlas.foldColumns(5));
        Check.due("all in one place", 5, atlas.thickness());
    }

    private static void foldRowsTurnsOver() {
        AtlasFolder atlas = withSheet(2, 5);
        Check.due("foldRows(4)", 8, atlas.foldRows(4));
        int[] places = {7, 6, 5, 4, 4};
        for (int row = 0; row < 5; row++) {
            Check.due("placeY", places[row], atlas.placeY(1, row));
            Check.due("placeX", 1, atlas.placeX(1, row));
            Check.due("isUp", row == 4, atlas.isUp(0, row));
            Check.due("above", row == 4 ? 1 : 0, atlas.above(0, row));
        }
        Check.due("foldRows(6)", 6, atlas.foldRows(6));
        Check.due("foldColumns(1)", 5, atlas.foldColumns(1));
        Check.due("thickness", 6, atlas.thickness());
        // The panel (0, 3) lay on (0, 4); both were turned to the place (0, 7), then to (1, 7).
        Check.due("placeX(0, 3)", 1, atlas.placeX(0, 3));
        Check.due("placeY(0, 3)", 7, atlas.placeY(0, 3));
        Check.due("above(0, 3)", 1, atlas.above(0, 3));
        Check.due("above(0, 4)", 2, atlas.above(0, 4));
        Check.due("above(0, 0)", 0, atlas.above(0, 0));
    }

    private static void foldNeedsBothSides() {
        AtlasFolder atlas = withSheet(4, 3);
        int[] noColumns = {0, -1, 4, 5, Integer.MIN_VALUE, Integer.MAX_VALUE};
        for (int before : noColumns) {
            Check.state("foldColumns(" + before + ")", () -> atlas.foldColumns(before));
        }
        int[] noRows = {0, -1, 3, 4, Integer.MIN_VALUE, Integer.MAX_VALUE};
        for (int before : noRows) {
            Check.state("foldRows(" + before + ")", () -> atlas.foldRows(before));
        }
        atlas.foldColumns(3);
        Check.state("nothing in front of the fold", () -> atlas.foldColumns(3));
        Check.state("nothing behind the last place", () -> atlas.foldColumns(6));
        Check.due("a line within the stack", 9, atlas.foldColumns(5));
        AtlasFolder single = new AtlasFolder();
        Check.state("one panel, columns", () -> single.foldColumns(1));
        Check.state("one panel, rows", () -> single.foldRows(0));
    }

    private static void foldThatThrowsChangesNothing() {
        AtlasFolder atlas = withSheet(3, 3);
        atlas.foldColumns(1);
        Check.state("foldColumns(1) again", () -> atlas.foldColumns(1));
        Check.state("foldColumns(3)", () -> atlas.foldColumns(3));
        Check.state("foldRows(3)", () -> atlas.foldRows(3));
        Check.state("foldRows(0)", () -> atlas.foldRows(0));
        Check.due("placeX", 1, atlas.placeX(0, 0));
        Check.due("above", 1, atlas.above(1, 0));
        Check.due("isUp", false, atlas.isUp(0, 2));
        Check.due("readable", 3, atlas.readable());
        Check.due("folds", 1, atlas.unfold());
    }

    private static void foldedAsOftenAsCanBe() {
        AtlasFolder atlas = withSheet(6, 6);
        Check.due("foldColumns(5)", 30, atlas.foldColumns(5));
        Check.due("placeX(0, 0), past the edge", 9, atlas.placeX(0, 0));
        for (int k = 1; k <= 4; k++) {
            Check.due("foldColumns(5 + k)", 6 + 6 * k, atlas.foldColumns(5 + k));
        }
        for (int k = 1; k <= 5; k++) {
            Check.due("foldRows(k)", 6 * k, atlas.foldRows(k));
        }
        Check.state("foldColumns(9) again", () -> atlas.foldColumns(9));
        Check.state("foldColumns(10)", () -> atlas.foldColumns(10));
        Check.state("foldRows(5) again", () -> atlas.foldRows(5));
        Check.state("foldRows(6)", () -> atlas.foldRows(6));
        int sum = 0;
        for (int panel = 0; panel < 36; panel++) {
            Check.due("placeX", 9, atlas.placeX(panel / 6, panel % 6));
            Check.due("placeY", 5, atlas.placeY(panel / 6, panel % 6));
            sum += atlas.above(panel / 6, panel % 6);
        }
        Check.due("each lies in a layer of its own", 35 * 36 / 2, sum);
        Check.due("thickness", 36, atlas.thickness());
        Check.due("folds", 10, atlas.unfold());
    }

    private static void unfoldTellsTheFolds() {
        AtlasFolder atlas = withSheet(4, 4);
        Check.due("no folds", 0, atlas.unfold());
        atlas.foldColumns(2);
        atlas.foldRows(2);
        atlas.foldRows(3);
        Check.due("three folds", 3, atlas.unfold());
        Check.due("none left", 0, atlas.unfold());
        Check.due("placeX", 0, atlas.placeX(0, 3));
        Check.due("placeY", 3, atlas.placeY(0, 3));
        Check.due("isUp", true, atlas.isUp(0, 0));
        Check.due("above", 0, atlas.above(3, 3));
        Check.due("readable", 16, atlas.readable());
    }

    private static void panelOfAPoint() {
        AtlasFolder atlas = withSheet(4, 2);
        Check.due("panel(90, -180)", 0, atlas.panel(90, -180));
        Check.due("panel(-90, 179)", 31, atlas.panel(-90, 179));
        Check.due("panel(0, 0)", 21, atlas.panel(0, 0));
        Check.due("panel(1, -1)", 10, atlas.panel(1, -1));
        atlas.foldColumns(2);
        Check.due("panel(0, -91), folded", 1, atlas.panel(0, -91));
        atlas.sheet(5, 6);
        Check.due("panel(61, -109)", 0, atlas.panel(61, -109));
        Check.due("panel(60, -108)", 11, atlas.panel(60, -108));
        Check.due("panel(-59, 107)", 34, atlas.panel(-59, 107));
        Check.due("panel(-60, 108)", 45, atlas.panel(-60, 108));
        Check.due("panel(-89, 179)", 45, atlas.panel(-89, 179));
        Check.due("panel(-90, 179)", 45, atlas.panel(-90, 179));
        Check.argument("panel(91, 0)", () -> atlas.panel(91, 0));
        Check.argument("panel(-91, 0)", () -> atlas.panel(-91, 0));
        Check.argument("panel(0, 180)", () -> atlas.panel(0, 180));
        Check.argument("panel(0, -181)", () -> atlas.panel(0, -181));
        Check.argument("panel(least, 0)", () -> atlas.panel(Integer.MIN_VALUE, 0));
        Check.argument("panel(0, greatest)", () -> atlas.panel(0, Integer.MAX_VALUE));
    }

    private static void panelsAreRefused() {
        AtlasFolder atlas = withSheet(3, 2);
        int[][] wrong = {{-1, 0}, {3, 0}, {0, -1}, {0, 2}, {2, 2}, {6, 6},
            {Integer.MIN_VALUE, 0}, {0, Integer.MAX_VALUE}, {Integer.MAX_VALUE, 0},
            {Integer.MIN_VALUE, Integer.MIN_VALUE}};
        for (int[] w : wrong) {
            String panel = "(" + w[0] + ", " + w[1] + ")";
            Check.index("placeX" + panel, () -> atlas.placeX(w[0], w[1]));
            Check.index("placeY" + panel, () -> atlas.placeY(w[0], w[1]));
            Check.index("above" + panel, () -> atlas.above(w[0], w[1]));
            Check.index("isUp" + panel, () -> atlas.isUp(w[0], w[1]));
        }
        atlas.sheet(6, 6);
        atlas.sheet(1, 6);
        Check.index("a column of the sheet before", () -> atlas.isUp(1, 0));
    }

    private static void thicknessOfAFoldedSheet() {
        AtlasFolder atlas = withSheet(6, 4);
        Check.due("unfolded", 1, atlas.thickness());
        atlas.foldColumns(1);
        Check.due("one fold", 2, atlas.thickness());
        atlas.foldColumns(2);
        Check.due("at the place 2", 3, atlas.thickness());
        atlas.foldRows(2);
        Check.due("across", 6, atlas.thickness());
        atlas.foldRows(3);
        Check.due("across again", 12, atlas.thickness());
        atlas.unfold();
        Check.due("unfolded again", 1, atlas.thickness());
    }

    private static void readableOfAFoldedSheet() {
        AtlasFolder atlas = withSheet(5, 1);
        Check.due("unfolded", 5, atlas.readable());
        atlas.foldColumns(1);
        Check.due("one covered, one face down", 3, atlas.readable());
        atlas.foldColumns(2);
        // The panel 0 lies face up again, below the panel 1, which is face down now.
        Check.due("panel 0 is up", true, atlas.isUp(0, 0));
        Check.due("panel 1 is up", false, atlas.isUp(1, 0));
        Check.due("below the panel 1", 1, atlas.above(0, 0));
        Check.due("readable", 2, atlas.readable());
        AtlasFolder narrow = withSheet(3, 1);
        narrow.foldColumns(2);
        narrow.foldColumns(3);
        Check.due("the panel 2 is at the top", 0, narrow.above(2, 0));
        Check.due("the panel at the top", false, narrow.isUp(2, 0));
        Check.due("the panel 1 below it", true, narrow.isUp(1, 0));
        Check.due("nothing is readable", 0, narrow.readable());
    }
}
