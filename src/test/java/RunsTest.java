/** Runs of 512 calls, always the same ones, each answer held against the one of NaiveAtlas. */
final class RunsTest {

    private static final int RUNS = 120;
    private static final int CALLS = 512;
    private static final int KINDS = 27;
    private static final int[] DIVISORS = {
        1, 2, 3, 4, 5, 6, 8, 9, 10, 12, 15, 18, 20, 24, 30, 36, 40, 45, 60, 72, 90, 120, 180, 360};
    private static final int[] FAR = {
        Integer.MIN_VALUE, Integer.MIN_VALUE + 1, -1, 0, 1, Integer.MAX_VALUE - 1,
        Integer.MAX_VALUE};

    private final AtlasFolder atlas = new AtlasFolder();
    private final NaiveAtlas naive = new NaiveAtlas();
    private final int run;
    private final int part;
    private long seed;

    private RunsTest(int run) {
        this.run = run;
        // A third of the runs only folds, a third leaves folding out, so that states grow deep.
        this.part = run % 3;
        this.seed = 7919L * run + 1;
    }

    static void run() {
        for (int run = 0; run < RUNS; run++) {
            RunsTest test = new RunsTest(run);
            for (int call = 0; call < CALLS; call++) {
                test.call();
            }
        }
    }

    /** The next number of a row that is the same each time, from least to greatest. */
    private int next(int least, int greatest) {
        seed = seed * 6364136223846793005L + 1442695040888963407L;
        return least + (int) ((seed >>> 33) % (greatest - least + 1));
    }

    /** Mostly a number in the range, now and then one just beyond it or far off. */
    private int about(int least, int greatest) {
        int kind = next(0, 39);
        if (kind == 0) {
            return FAR[next(0, FAR.length - 1)];
        }
        if (kind == 1) {
            return next(0, 1) == 0 ? least - 1 : greatest + 1;
        }
        if (kind < 6) {
            return next(0, 1) == 0 ? least : greatest;
        }
        return next(least, greatest);
    }

    private int latitude() {
        return about(-90, 90);
    }

    private int longitude() {
        return about(-180, 179);
    }

    private void due(String call, Check.Call want, Check.Call got) {
        Check.due("run " + run + ": " + call, Check.answer(want), Check.answer(got));
    }

    private void call() {
        int kind = part == 0 ? next(0, KINDS - 1)
                : part == 1 ? next(16, KINDS - 1) : next(0, 15);
        // The kinds stand in the document's order, and the promise 2 is the first call's.
        Check.promise(kind + 2);
        if (kind < 4) {
            callTable(kind);
        } else if (kind < 10) {
            callAreas(kind);
        } else if (kind < 16) {
            callRings(kind);
        } else {
            callSheet(kind);
        }
    }

    private void callTable(int kind) {
        int a = latitude();
        int b = longitude();
        switch (kind) {
            case 0 -> setTable(about(0, 9));
            case 1 -> due("x(" + a + ", " + b + ")", () -> naive.x(a, b), () -> atlas.x(a, b));
            case 2 -> due("y(" + a + ")", () -> naive.y(a), () -> atlas.y(a));
            default -> {
                int height = about(-99990, 99990);
                due("latitudeAt(" + height + ")", () -> naive.latitudeAt(height),
                        () -> atlas.latitudeAt(height));
            }
        }
    }

    private void setTable(int row) {
        int w = next(0, 2) == 0 ? 0 : about(0, 1000);
        int near = Math.max(-1, Math.min(10, row)) * 1000;
        int h = next(0, 4) == 0 ? about(0, 9999) : row == 0 ? about(0, 0) : about(near - 700, near + 700);
        due("table(" + row + ", " + w + ", " + h + ")", () -> {
            naive.table(row, w, h);
            return "set";
        }, () -> {
            atlas.table(row, w, h);
            return "set";
        });
    }

    private void callAreas(int kind) {
        switch (kind) {
            case 4, 5 -> callField(kind == 4);
            case 6 -> {
                int band = about(0, 8);
                int truth = next(0, 1) == 0 ? about(1, 99999) : next(999, 1001);
                due("truth(" + band + ", " + truth + ")", () -> naive.truth(band, truth),
                        () -> atlas.truth(band, truth));
            }
            case 7 -> due("keepsAreas()", naive::keepsAreas, atlas::keepsAreas);
            case 8 -> due("widest()", naive::widest, atlas::widest);
            default -> {
                int band = about(0, 8);
                due("stretch(" + band + ")", () -> naive.stretch(band), () -> atlas.stretch(band));
            }
        }
    }

    private void callField(boolean whole) {
        int south = latitude();
        int north = next(0, 5) == 0 ? latitude() : next(Math.max(-90, Math.min(90, south)), 90);
        int west = about(-180, 180);
        int east = next(0, 5) == 0 ? about(-180, 180) : next(Math.max(-180, Math.min(180, west)), 180);
        String field = "(" + south + ", " + north + ", " + west + ", " + east + ")";
        if (whole) {
            due("area" + field, () -> naive.area(south, north, west, east),
                    () -> atlas.area(south, north, west, east));
        } else {
            due("areaByCells" + field, () -> naive.area(south, north, west, east),
                    () -> atlas.areaByCells(south, north, west, east));
        }
    }

    private void callRings(int kind) {
        int a = latitude();
        int b = longitude();
        int c = next(0, 3) == 0 && b >= -180 && b <= 179 ? (b < 0 ? b + 180 : b - 180) : longitude();
        String way = "(" + b + ", " + c + ")";
        switch (kind) {
            case 10 -> due("apart" + way, () -> naive.apart(b, c), () -> atlas.apart(b, c));
            case 11 -> due("ringWay(" + a + ") of " + way, () -> naive.ringWay(a, b, c),
                    () -> atlas.ringWay(a, b, c));
            case 12 -> {
                int breadth = next(0, 3) == 0 ? about(1, 360)
                        : DIVISORS[next(0, DIVISORS.length - 1)];
                due("zones(" + breadth + ")", () -> naive.zones(breadth),
                        () -> atlas.zones(breadth));
            }
            case 13 -> due("zone(" + b + ")", () -> naive.zone(b), () -> atlas.zone(b));
            case 14 -> due("seams" + way, () -> naive.seams(b, c), () -> atlas.seams(b, c));
            default -> due("dateLine" + way, () -> naive.dateLine(b, c),
                    () -> atlas.dateLine(b, c));
        }
    }

    private void callSheet(int kind) {
        int a = latitude();
        int b = longitude();
        switch (kind) {
            case 16 -> takeSheet();
            case 17 -> {
                int before = lineNear(true);
                due("foldColumns(" + before + ")", () -> naive.foldColumns(before),
                        () -> atlas.foldColumns(before));
            }
            case 18 -> {
                int before = lineNear(false);
                due("foldRows(" + before + ")", () -> naive.foldRows(before),
                        () -> atlas.foldRows(before));
            }
            case 19 -> {
                if (next(0, 3) == 0) {
                    due("unfold()", naive::unfold, atlas::unfold);
                }
            }
            case 20 -> due("panel(" + a + ", " + b + ")", () -> naive.panel(a, b),
                    () -> atlas.panel(a, b));
            case 25 -> due("thickness()", naive::thickness, atlas::thickness);
            case 26 -> due("readable()", naive::readable, atlas::readable);
            default -> lookAtPanel(kind, about(0, 5), about(0, 5));
        }
    }

    private void takeSheet() {
        if (next(0, 2) != 0) {
            return;
        }
        int columns = next(0, 1) == 0 ? 6 : about(1, 6);
        int rows = next(0, 1) == 0 ? 6 : about(1, 6);
        due("sheet(" + columns + ", " + rows + ")", () -> {
            naive.sheet(columns, rows);
            return "taken";
        }, () -> {
            atlas.sheet(columns, rows);
            return "taken";
        });
    }

    /** A line at or next to a place where a panel lies, or any number. */
    private int lineNear(boolean columns) {
        int line = about(0, 12);
        return next(0, 3) == 0 ? line
                : (columns ? naive.placeX(0, 0) : naive.placeY(0, 0)) + next(-2, 2);
    }

    private void lookAtPanel(int kind, int c, int r) {
        String panel = "(" + c + ", " + r + ")";
        switch (kind) {
            case 21 -> due("placeX" + panel, () -> naive.placeX(c, r), () -> atlas.placeX(c, r));
            case 22 -> due("placeY" + panel, () -> naive.placeY(c, r), () -> atlas.placeY(c, r));
            case 23 -> due("above" + panel, () -> naive.above(c, r), () -> atlas.above(c, r));
            default -> due("isUp" + panel, () -> naive.isUp(c, r), () -> atlas.isUp(c, r));
        }
    }
}
