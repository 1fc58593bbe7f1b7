/** Promises 18 to 28: the sheet and its folds. RefusedTest has what they refuse. */
final class SheetTest {

    private SheetTest() {
    }

    static void run() {
        sheetTakesOneToSix();
        sheetIsUnfolded();
        foldColumnsTurnsOver();
        foldColumnsAtEachLine();
        foldColumnsPastTheEdge();
        foldRowsTurnsOver();
        foldRowsAtEachLine();
        foldRowsPastTheEdge();
        foldsTakeTheWholeStack();
        foldsComeOnTopOfAHighPanelThatIsTurned();
        foldsComeOnTopOfAHighPanelThatStays();
        unfoldTellsTheFolds();
        foldedAndUnfoldedManyTimes();
        foldedAndTakenAnewManyTimes();
        panelOfAPoint();
        panelAtTheLinesOfEachSheet();
        panelOfAFoldedSheet();
        placesOfAnUnfoldedSheet();
        aboveInAPile();
        isUpAfterEachTurn();
        thicknessOfAFoldedSheet();
        readableOfAFoldedSheet();
        nothingIsReadable();
        foldedToOnePlace();
    }

    private static AtlasFolder withSheet(int columns, int rows) {
        AtlasFolder atlas = new AtlasFolder();
        atlas.sheet(columns, rows);
        return atlas;
    }

    private static void sheetTakesOneToSix() {
        Check.promise(18);
        AtlasFolder atlas = new AtlasFolder();
        for (int columns = 1; columns <= 6; columns++) {
            for (int rows = 1; rows <= 6; rows++) {
                atlas.sheet(columns, rows);
                String sheet = columns + " by " + rows;
                Check.due("panels of " + sheet, columns * rows, atlas.readable());
                Check.due("last panel of " + sheet, 10 * (columns - 1) + rows - 1,
                        atlas.panel(-90, 179));
                Check.due("x of the last of " + sheet, columns - 1,
                        atlas.placeX(columns - 1, rows - 1));
                Check.due("y of the last of " + sheet, rows - 1,
                        atlas.placeY(columns - 1, rows - 1));
            }
        }
    }

    private static void sheetIsUnfolded() {
        Check.promise(18);
        AtlasFolder atlas = withSheet(6, 6);
        atlas.foldColumns(3);
        atlas.foldRows(2);
        atlas.sheet(6, 6);
        for (int column = 0; column < 6; column++) {
            for (int row = 0; row < 6; row++) {
                Check.due("placeX", column, atlas.placeX(column, row));
                Check.due("placeY", row, atlas.placeY(column, row));
                Check.due("above", 0, atlas.above(column, row));
                Check.due("isUp", true, atlas.isUp(column, row));
            }
        }
        Check.due("thickness", 1, atlas.thickness());
        Check.due("readable", 36, atlas.readable());
        Check.due("folds of a new sheet", 0, atlas.unfold());
    }

    private static void foldColumnsTurnsOver() {
        Check.promise(19);
        AtlasFolder atlas = withSheet(5, 2);
        Check.due("foldColumns(2)", 4, atlas.foldColumns(2));
        int[] places = {3, 2, 2, 3, 4};
        int[] above = {0, 0, 1, 1, 0};
        for (int column = 0; column < 5; column++) {
            for (int row = 0; row < 2; row++) {
                Check.due("placeX", places[column], atlas.placeX(column, row));
                Check.due("placeY", row, atlas.placeY(column, row));
                Check.due("above", above[column], atlas.above(column, row));
                Check.due("isUp", column >= 2, atlas.isUp(column, row));
            }
        }
        Check.due("foldColumns(4)", 8, atlas.foldColumns(4));
        // The place 3 comes to 4 in the order 3, 0 on the panel 4; the place 2 to 5.
        Check.due("placeX(3)", 4, atlas.placeX(3, 0));
        Check.due("placeX(0)", 4, atlas.placeX(0, 0));
        Check.due("placeX(2)", 5, atlas.placeX(2, 1));
        Check.due("above(4)", 2, atlas.above(4, 0));
        Check.due("above(0)", 1, atlas.above(0, 0));
        Check.due("above(3)", 0, atlas.above(3, 0));
        Check.due("above(1)", 1, atlas.above(1, 1));
        Check.due("above(2)", 0, atlas.above(2, 1));
        Check.due("isUp(0)", true, atlas.isUp(0, 0));
        Check.due("isUp(3)", false, atlas.isUp(3, 0));
        Check.due("foldColumns(5)", 6, atlas.foldColumns(5));
        Check.due("all in one place", 5, atlas.thickness());
    }

    private static void foldColumnsAtEachLine() {
        Check.promise(19);
        for (int columns = 1; columns <= 6; columns++) {
            for (int before = -1; before <= columns + 1; before++) {
                AtlasFolder atlas = withSheet(columns, 3);
                int line = before;
                boolean folds = line > 0 && line < columns;
                Object due = folds ? 3 * line : "throws.IllegalStateException";
                Check.due("foldColumns(" + line + ") of " + columns, due,
                        Check.answer(() -> atlas.foldColumns(line)));
                for (int column = 0; column < columns; column++) {
                    boolean turned = folds && column < line;
                    Check.due("placeX(" + column + ") of " + columns,
                            turned ? 2 * line - 1 - column : column, atlas.placeX(column, 2));
                    Check.due("isUp(" + column + ") of " + columns, !turned,
                            atlas.isUp(column, 0));
                }
            }
        }
    }

    private static void foldColumnsPastTheEdge() {
        Check.promise(19);
        AtlasFolder atlas = withSheet(6, 1);
        Check.due("foldColumns(5)", 5, atlas.foldColumns(5));
        int[] places = {9, 8, 7, 6, 5, 5};
        for (int column = 0; column < 6; column++) {
            Check.due("placeX(" + column + ")", places[column], atlas.placeX(column, 0));
        }
        Check.due("foldColumns(5) at the first place", "throws.IllegalStateException",
                Check.answer(() -> atlas.foldColumns(5)));
        Check.due("foldColumns(10) behind the last place", "throws.IllegalStateException",
                Check.answer(() -> atlas.foldColumns(10)));
        Check.due("foldColumns(9)", 5, atlas.foldColumns(9));
        int[] placesNow = {9, 9, 10, 11, 12, 12};
        for (int column = 0; column < 6; column++) {
            Check.due("placeX(" + column + ")", placesNow[column], atlas.placeX(column, 0));
        }
    }

    private static void foldRowsTurnsOver() {
        Check.promise(20);
        AtlasFolder atlas = withSheet(2, 5);
        Check.due("foldRows(4)", 8, atlas.foldRows(4));
        int[] places = {7, 6, 5, 4, 4};
        for (int row = 0; row < 5; row++) {
            Check.due("placeY", places[row], atlas.placeY(1, row));
            Check.due("placeX", 1, atlas.placeX(1, row));
            Check.due("isUp", row == 4, atlas.isUp(0, row));
            Check.due("above", row == 4 ? 1 : 0, atlas.above(0, row));
        }
        Check.due("foldRows(6)", 6, atlas.foldRows(6));
        Check.due("foldColumns(1)", 5, atlas.foldColumns(1));
        Check.due("thickness", 6, atlas.thickness());
        // The panel (0, 3) lay on (0, 4); both were turned to the place (0, 7), then to (1, 7).
        Check.due("placeX(0, 3)", 1, atlas.placeX(0, 3));
        Check.due("placeY(0, 3)", 7, atlas.placeY(0, 3));
        Check.due("above(0, 3)", 1, atlas.above(0, 3));
        Check.due("above(0, 4)", 2, atlas.above(0, 4));
        Check.due("above(0, 0)", 0, atlas.above(0, 0));
    }

    private static void foldRowsAtEachLine() {
        Check.promise(20);
        for (int rows = 1; rows <= 6; rows++) {
            for (int before = -1; before <= rows + 1; before++) {
                AtlasFolder atlas = withSheet(2, rows);
                int line = before;
                boolean folds = line > 0 && line < rows;
                Object due = folds ? 2 * line : "throws.IllegalStateException";
                Check.due("foldRows(" + line + ") of " + rows, due,
                        Check.answer(() -> atlas.foldRows(line)));
                for (int row = 0; row < rows; row++) {
                    boolean turned = folds && row < line;
                    Check.due("placeY(" + row + ") of " + rows,
                            turned ? 2 * line - 1 - row : row, atlas.placeY(1, row));
                    Check.due("isUp(" + row + ") of " + rows, !turned, atlas.isUp(0, row));
                }
            }
        }
    }

    private static void foldRowsPastTheEdge() {
        Check.promise(20);
        AtlasFolder atlas = withSheet(1, 6);
        Check.due("foldRows(4)", 4, atlas.foldRows(4));
        int[] places = {7, 6, 5, 4, 4, 5};
        for (int row = 0; row < 6; row++) {
            Check.due("placeY(" + row + ")", places[row], atlas.placeY(0, row));
        }
        Check.due("foldRows(4) at the first place", "throws.IllegalStateException",
                Check.answer(() -> atlas.foldRows(4)));
        Check.due("foldRows(8) behind the last place", "throws.IllegalStateException",
                Check.answer(() -> atlas.foldRows(8)));
        Check.due("foldRows(7)", 5, atlas.foldRows(7));
    }

    /** A pile that is turned comes on top of another pile, its highest panel lowest. */
    private static void foldsTakeTheWholeStack() {
        int[] fromTheTop = {2, 1, 0, 3};
        AtlasFolder columns = withSheet(4, 1);
        columns.foldColumns(2);
        columns.foldColumns(3);
        AtlasFolder rows = withSheet(1, 4);
        rows.foldRows(2);
        rows.foldRows(3);
        for (int k = 0; k < 4; k++) {
            int panel = fromTheTop[k];
            Check.promise(19);
            Check.due("above the column " + panel, k, columns.above(panel, 0));
            Check.promise(20);
            Check.due("above the row " + panel, k, rows.above(0, panel));
        }
    }

    /** The panel 0 alone lies in the highest layer, and is among those that are turned. */
    private static void foldsComeOnTopOfAHighPanelThatIsTurned() {
        AtlasFolder columns = withSheet(5, 1);
        columns.foldColumns(1);
        columns.foldColumns(2);
        AtlasFolder rows = withSheet(1, 5);
        rows.foldRows(1);
        rows.foldRows(2);
        int[] above = {1, 0, 2, 0, 0};
        for (int panel = 0; panel < 5; panel++) {
            Check.promise(19);
            Check.due("above the column " + panel, above[panel], columns.above(panel, 0));
            Check.promise(20);
            Check.due("above the row " + panel, above[panel], rows.above(0, panel));
        }
    }

    /**
     * From the lowest to the highest lie, after two folds, at 7 the panels 2 and 3, at 8 the panels
     * 1, 4 and 5, at 9 the panel 0: the panel 5 is in a layer above all that the third fold turns.
     */
    private static void foldsComeOnTopOfAHighPanelThatStays() {
        AtlasFolder columns = withSheet(6, 1);
        AtlasFolder rows = withSheet(1, 6);
        int[] lines = {5, 7, 8};
        for (int line : lines) {
            columns.foldColumns(line);
            rows.foldRows(line);
        }
        int[] places = {9, 8, 8, 8, 8, 8};
        int[] above = {0, 4, 0, 1, 3, 2};
        boolean[] up = {false, false, true, false, true, false};
        for (int panel = 0; panel < 6; panel++) {
            Check.promise(19);
            Check.due("x of the column " + panel, places[panel], columns.placeX(panel, 0));
            Check.due("above the column " + panel, above[panel], columns.above(panel, 0));
            Check.due("the column " + panel + " is up", up[panel], columns.isUp(panel, 0));
            Check.promise(20);
            Check.due("y of the row " + panel, places[panel], rows.placeY(0, panel));
            Check.due("above the row " + panel, above[panel], rows.above(0, panel));
            Check.due("the row " + panel + " is up", up[panel], rows.isUp(0, panel));
        }
    }

    private static void unfoldTellsTheFolds() {
        Check.promise(21);
        AtlasFolder atlas = withSheet(4, 4);
        Check.due("no folds", 0, atlas.unfold());
        atlas.foldColumns(2);
        Check.due("one fold", 1, atlas.unfold());
        atlas.foldColumns(2);
        atlas.foldRows(2);
        atlas.foldRows(3);
        Check.answer(() -> atlas.foldRows(3));
        Check.answer(() -> atlas.foldColumns(0));
        Check.due("three folds, refused ones left out", 3, atlas.unfold());
        Check.due("none left", 0, atlas.unfold());
        for (int column = 0; column < 4; column++) {
            for (int row = 0; row < 4; row++) {
                Check.due("placeX", column, atlas.placeX(column, row));
                Check.due("placeY", row, atlas.placeY(column, row));
                Check.due("isUp", true, atlas.isUp(column, row));
                Check.due("above", 0, atlas.above(column, row));
            }
        }
        Check.due("readable", 16, atlas.readable());
        Check.due("thickness", 1, atlas.thickness());
        Check.due("folded again", 8, atlas.foldColumns(2));
        atlas.sheet(4, 4);
        Check.due("none of the sheet before", 0, atlas.unfold());
    }

    /** Unfolded, all panels are in the layer 0 again: nothing is left that could grow. */
    private static void foldedAndUnfoldedManyTimes() {
        Check.promise(21);
        AtlasFolder atlas = withSheet(3, 3);
        for (int times = 0; times < 100; times++) {
            atlas.foldColumns(1);
            atlas.foldColumns(2);
            atlas.foldRows(2);
            Check.due("unfold(), time " + times, 3, atlas.unfold());
        }
        foldedOnceMore(atlas);
    }

    private static void foldedAndTakenAnewManyTimes() {
        Check.promise(18);
        AtlasFolder atlas = withSheet(3, 3);
        for (int times = 0; times < 100; times++) {
            atlas.foldColumns(1);
            atlas.foldColumns(2);
            atlas.foldRows(2);
            atlas.sheet(3, 3);
        }
        foldedOnceMore(atlas);
    }

    private static void foldedOnceMore(AtlasFolder atlas) {
        atlas.foldColumns(2);
        atlas.foldRows(1);
        int[][] above = {{0, 1, 0}, {1, 2, 0}, {0, 3, 1}};
        for (int column = 0; column < 3; column++) {
            for (int row = 0; row < 3; row++) {
                Check.due("above " + column + " " + row, above[column][row],
                        atlas.above(column, row));
            }
        }
        Check.due("thickness", 4, atlas.thickness());
        Check.due("folds", 2, atlas.unfold());
    }

    private static void panelOfAPoint() {
        Check.promise(22);
        AtlasFolder atlas = withSheet(4, 2);
        Check.due("panel(90, -180)", 0, atlas.panel(90, -180));
        Check.due("panel(90, 179)", 30, atlas.panel(90, 179));
        Check.due("panel(-90, -180)", 1, atlas.panel(-90, -180));
        Check.due("panel(-90, 179)", 31, atlas.panel(-90, 179));
        Check.due("panel(0, 0)", 21, atlas.panel(0, 0));
        Check.due("panel(1, -1)", 10, atlas.panel(1, -1));
        atlas.sheet(5, 6);
        Check.due("panel(61, -109)", 0, atlas.panel(61, -109));
        Check.due("panel(60, -108)", 11, atlas.panel(60, -108));
        Check.due("panel(-59, 107)", 34, atlas.panel(-59, 107));
        Check.due("panel(-60, 108)", 45, atlas.panel(-60, 108));
        Check.due("panel(-89, 179)", 45, atlas.panel(-89, 179));
        Check.due("panel(-90, 179), at most the last row", 45, atlas.panel(-90, 179));
    }

    /** The sides 1 to 6 divide 180 and 360: each line between panels lies on a whole degree. */
    private static void panelAtTheLinesOfEachSheet() {
        Check.promise(22);
        for (int side = 1; side <= 6; side++) {
            AtlasFolder atlas = withSheet(side, side);
            for (int k = 0; k < side; k++) {
                int west = -180 + k * (360 / side);
                int east = west + 360 / side - 1;
                Check.due("west of column " + k + " of " + side, 10 * k, atlas.panel(90, west));
                Check.due("east of column " + k + " of " + side, 10 * k, atlas.panel(90, east));
                int north = 90 - k * (180 / side);
                int south = north - 180 / side + 1;
                Check.due("north of row " + k + " of " + side, k, atlas.panel(north, -180));
                Check.due("south of row " + k + " of " + side, k, atlas.panel(south, -180));
            }
            Check.due("the south pole of " + side, side - 1, atlas.panel(-90, -180));
        }
    }

    private static void panelOfAFoldedSheet() {
        Check.promise(22);
        AtlasFolder atlas = withSheet(4, 2);
        atlas.foldColumns(2);
        Check.due("panel(0, -91), folded", 1, atlas.panel(0, -91));
        Check.due("panel(0, -90), folded", 11, atlas.panel(0, -90));
    }

    private static void placesOfAnUnfoldedSheet() {
        AtlasFolder atlas = withSheet(6, 5);
        for (int column = 0; column < 6; column++) {
            for (int row = 0; row < 5; row++) {
                Check.promise(23);
                Check.due("placeX of " + column + " " + row, column, atlas.placeX(column, row));
                Check.promise(24);
                Check.due("placeY of " + column + " " + row, row, atlas.placeY(column, row));
            }
        }
        atlas.foldRows(4);
        Check.promise(23);
        Check.due("placeX of a turned row", 5, atlas.placeX(5, 0));
        Check.promise(24);
        Check.due("placeY of a turned row", 7, atlas.placeY(5, 0));
        atlas.foldColumns(5);
        Check.promise(23);
        Check.due("placeX of a turned column", 9, atlas.placeX(0, 0));
        Check.promise(24);
        Check.due("placeY of a turned column", 7, atlas.placeY(0, 0));
    }

    private static void aboveInAPile() {
        Check.promise(25);
        AtlasFolder single = new AtlasFolder();
        Check.due("above the only panel", 0, single.above(0, 0));
        AtlasFolder atlas = withSheet(3, 2);
        Check.due("above, unfolded", 0, atlas.above(2, 1));
        atlas.foldColumns(1);
        Check.due("above the covered panel", 1, atlas.above(1, 0));
        Check.due("above the covering panel", 0, atlas.above(0, 0));
        Check.due("above a panel at another place", 0, atlas.above(2, 0));
        atlas.foldRows(1);
        Check.due("above the lowest panel", 3, atlas.above(1, 1));
        Check.due("above the one on it", 2, atlas.above(0, 1));
        Check.due("above the next one", 1, atlas.above(0, 0));
        Check.due("above the highest panel", 0, atlas.above(1, 0));
    }

    private static void isUpAfterEachTurn() {
        Check.promise(26);
        AtlasFolder atlas = withSheet(3, 2);
        Check.due("unfolded", true, atlas.isUp(0, 0));
        atlas.foldColumns(1);
        Check.due("turned once", false, atlas.isUp(0, 0));
        Check.due("not turned", true, atlas.isUp(1, 0));
        atlas.foldRows(1);
        Check.due("turned twice", true, atlas.isUp(0, 0));
        Check.due("turned once by rows", false, atlas.isUp(1, 0));
        Check.due("turned once by columns", false, atlas.isUp(0, 1));
        atlas.foldColumns(2);
        Check.due("turned three times", false, atlas.isUp(0, 0));
        atlas.unfold();
        Check.due("unfolded again", true, atlas.isUp(0, 0));
    }

    private static void thicknessOfAFoldedSheet() {
        Check.promise(27);
        AtlasFolder atlas = withSheet(6, 4);
        Check.due("unfolded", 1, atlas.thickness());
        atlas.foldColumns(1);
        Check.due("one fold", 2, atlas.thickness());
        atlas.foldColumns(2);
        Check.due("at the place 2", 3, atlas.thickness());
        atlas.foldRows(2);
        Check.due("across", 6, atlas.thickness());
        atlas.foldRows(3);
        Check.due("across again", 12, atlas.thickness());
        atlas.unfold();
        Check.due("unfolded again", 1, atlas.thickness());
        Check.due("one panel", 1, new AtlasFolder().thickness());
    }

    private static void readableOfAFoldedSheet() {
        Check.promise(28);
        Check.due("one panel", 1, new AtlasFolder().readable());
        AtlasFolder atlas = withSheet(5, 1);
        Check.due("unfolded", 5, atlas.readable());
        atlas.foldColumns(1);
        Check.due("one covered, one face down", 3, atlas.readable());
        atlas.foldColumns(2);
        // The panel 0 lies face up again, below the panel 1, which is face down now.
        Check.due("panel 0 is up", true, atlas.isUp(0, 0));
        Check.due("panel 1 is up", false, atlas.isUp(1, 0));
        Check.due("below the panel 1", 1, atlas.above(0, 0));
        Check.due("readable", 2, atlas.readable());
        atlas.unfold();
        Check.due("unfolded again", 5, atlas.readable());
    }

    private static void nothingIsReadable() {
        Check.promise(28);
        AtlasFolder narrow = withSheet(3, 1);
        narrow.foldColumns(2);
        narrow.foldColumns(3);
        Check.due("the panel 2 is at the top", 0, narrow.above(2, 0));
        Check.due("the panel at the top", false, narrow.isUp(2, 0));
        Check.due("the panel 1 below it", true, narrow.isUp(1, 0));
        Check.due("nothing is readable", 0, narrow.readable());
        AtlasFolder two = withSheet(2, 1);
        two.foldColumns(1);
        Check.due("two panels, one face down on the other", 0, two.readable());
    }

    /** The most folds there can be: 5 in each direction, all 36 panels at one place. */
    private static void foldedToOnePlace() {
        AtlasFolder atlas = withSheet(6, 6);
        Check.promise(19);
        for (int k = 0; k <= 4; k++) {
            Check.due("foldColumns(5 + k)", k == 0 ? 30 : 6 + 6 * k, atlas.foldColumns(5 + k));
        }
        Check.promise(20);
        for (int k = 1; k <= 5; k++) {
            Check.due("foldRows(k)", 6 * k, atlas.foldRows(k));
        }
        int sum = 0;
        for (int column = 0; column < 6; column++) {
            for (int row = 0; row < 6; row++) {
                Check.promise(23);
                Check.due("placeX", 9, atlas.placeX(column, row));
                Check.promise(24);
                Check.due("placeY", 5, atlas.placeY(column, row));
                sum += atlas.above(column, row);
            }
        }
        Check.promise(25);
        Check.due("each lies in a layer of its own", 35 * 36 / 2, sum);
        Check.promise(27);
        Check.due("all at one place", 36, atlas.thickness());
        Check.promise(28);
        // The panel (0, 4) is the lowest of those that the last fold turns, and turned twice.
        Check.due("the panel at the top", 0, atlas.above(0, 4));
        Check.due("it is up", true, atlas.isUp(0, 4));
        Check.due("one is readable", 1, atlas.readable());
        Check.promise(19);
        for (int before = -1; before <= 20; before++) {
            int line = before;
            Check.due("foldColumns(" + line + ") of one place", "throws.IllegalStateException",
                    Check.answer(() -> atlas.foldColumns(line)));
            Check.due("foldRows(" + line + ") of one place", "throws.IllegalStateException",
                    Check.answer(() -> atlas.foldRows(line)));
        }
        Check.promise(21);
        Check.due("ten folds", 10, atlas.unfold());
    }
}
