/** Promises 2 (set), 3 (row), 4 (like), 11 (shade) and 20 (mean). */
public final class PatternTest {
    public static void main(String[] args) {
        setChangesOneCell();
        setAtItsBounds();
        setBeyondItsBounds();
        rowClimbsAndFalls();
        rowIsHeldAt255();
        rowIsHeldAt0();
        rowAtItsBounds();
        rowBeyondItsBounds();
        likeTakesARow();
        likeCountsWhatIsChanged();
        likeAtItsBounds();
        likeBeyondItsBounds();
        shadeAtItsBounds();
        shadeBeyondItsBounds();
        meanOfAllShades();
        Checks.end();
    }

    private static void setChangesOneCell() {
        TapestryRuns loom = new TapestryRuns();
        Checks.same("set(3, 2, 7)", loom.set(3, 2, 7), 128);
        Checks.same("set(3, 2, 0)", loom.set(3, 2, 0), 7);
        Checks.same("set(0, 0, 255)", loom.set(0, 0, 255), 128);
        Checks.same("set(11, 7, 1)", loom.set(11, 7, 1), 128);
        Checks.same("row 2", Patterns.shades(loom, 2), "128 128 128 0 128 128 128 128 128 128 128 128");
        Checks.same("row 0", Patterns.shades(loom, 0), "255 128 128 128 128 128 128 128 128 128 128 128");
        Checks.same("row 7", Patterns.shades(loom, 7), "128 128 128 128 128 128 128 128 128 128 128 1");
        Checks.same("row 3", Patterns.shades(loom, 3), "128 128 128 128 128 128 128 128 128 128 128 128");
    }

    private static void setAtItsBounds() {
        for (int x : Bounds.within(0, 11)) {
            for (int y : Bounds.within(0, 7)) {
                for (int shade : Bounds.within(0, 255)) {
                    TapestryRuns loom = new TapestryRuns();
                    Checks.same("set(" + x + ", " + y + ", " + shade + ")", loom.set(x, y, shade), 128);
                    Checks.same("the shade then", loom.shade(x, y), shade);
                    Checks.same("set again", loom.set(x, y, 128), shade);
                    Checks.same("all others stay", loom.digest(), new TapestryRuns().digest());
                }
            }
        }
    }

    private static void setBeyondItsBounds() {
        for (int x : Bounds.beyond(0, 11)) {
            Refusals.outOfBounds("set(" + x + ", 0, 0)", loom -> loom.set(x, 0, 0));
            Refusals.outOfBounds("set(" + x + ", 7, -1)", loom -> loom.set(x, 7, -1));
        }
        for (int y : Bounds.beyond(0, 7)) {
            Refusals.outOfBounds("set(0, " + y + ", 0)", loom -> loom.set(0, y, 0));
            Refusals.outOfBounds("set(11, " + y + ", 256)", loom -> loom.set(11, y, 256));
        }
        for (int shade : Bounds.beyond(0, 255)) {
            Refusals.illegal("set(11, 7, " + shade + ")", loom -> loom.set(11, 7, shade));
        }
        Refusals.outOfBounds("set(7, 11, 0)", loom -> loom.set(7, 11, 0));
        Refusals.outOfBounds("set(-1, 8, 256)", loom -> loom.set(-1, 8, 256));
    }

    private static void rowClimbsAndFalls() {
        TapestryRuns loom = new TapestryRuns();
        Checks.same("row(0, 0, 20)", loom.row(0, 0, 20), 220);
        Checks.same("climbs", Patterns.shades(loom, 0), "0 20 40 60 80 100 120 140 160 180 200 220");
        Checks.same("row(1, 255, -20)", loom.row(1, 255, -20), 35);
        Checks.same("falls", Patterns.shades(loom, 1), "255 235 215 195 175 155 135 115 95 75 55 35");
        Checks.same("row(5, 9, 0)", loom.row(5, 9, 0), 9);
        Checks.same("row 4 stays", Patterns.shades(loom, 4), "128 128 128 128 128 128 128 128 128 128 128 128");
    }

    private static void rowIsHeldAt255() {
        TapestryRuns loom = new TapestryRuns();
        Checks.same("row(0, 199, 5), 254 at the end", loom.row(0, 199, 5), 254);
        Checks.same("row(0, 200, 5), 255 at the end", loom.row(0, 200, 5), 255);
        Checks.same("before the end", loom.shade(10, 0), 250);
        Checks.same("row(0, 201, 5), 256 at the end", loom.row(0, 201, 5), 255);
        Checks.same("before the end of 201", loom.shade(10, 0), 251);
        Checks.same("row(7, 100, 60)", loom.row(7, 100, 60), 255);
        Checks.same("row 7", Patterns.shades(loom, 7), "100 160 220 255 255 255 255 255 255 255 255 255");
        Checks.same("row(1, 254, 1)", loom.row(1, 254, 1), 255);
        Checks.same("row 1", Patterns.shades(loom, 1), "254 255 255 255 255 255 255 255 255 255 255 255");
        Checks.same("row(2, 255, 60)", loom.row(2, 255, 60), 255);
        Checks.same("row 2", Patterns.shades(loom, 2), "255 255 255 255 255 255 255 255 255 255 255 255");
    }

    private static void rowIsHeldAt0() {
        TapestryRuns loom = new TapestryRuns();
        Checks.same("row(0, 56, -5), 1 at the end", loom.row(0, 56, -5), 1);
        Checks.same("row(0, 55, -5), 0 at the end", loom.row(0, 55, -5), 0);
        Checks.same("before the end", loom.shade(10, 0), 5);
        Checks.same("row(0, 54, -5), -1 at the end", loom.row(0, 54, -5), 0);
        Checks.same("before the end of 54", loom.shade(10, 0), 4);
        Checks.same("row(6, 130, -60)", loom.row(6, 130, -60), 0);
        Checks.same("row 6", Patterns.shades(loom, 6), "130 70 10 0 0 0 0 0 0 0 0 0");
        Checks.same("row(1, 1, -1)", loom.row(1, 1, -1), 0);
        Checks.same("row 1", Patterns.shades(loom, 1), "1 0 0 0 0 0 0 0 0 0 0 0");
        Checks.same("row(2, 0, -60)", loom.row(2, 0, -60), 0);
        Checks.same("row 2", Patterns.shades(loom, 2), "0 0 0 0 0 0 0 0 0 0 0 0");
    }

    private static void rowAtItsBounds() {
        for (int y : Bounds.within(0, 7)) {
            for (int from : Bounds.within(0, 255)) {
                TapestryRuns loom = new TapestryRuns();
                Checks.same("row(" + y + ", " + from + ", 0)", loom.row(y, from, 0), from);
                Checks.same("its first cell", loom.shade(0, y), from);
                loom.row(y, 128, 0);
                Checks.same("all others stay", loom.digest(), new TapestryRuns().digest());
            }
        }
        TapestryRuns loom = new TapestryRuns();
        int[] secondShades = {40, 41, 159, 160};
        int[] steps = Bounds.within(-60, 60);
        for (int nth = 0; nth < steps.length; nth++) {
            loom.row(3, 100, steps[nth]);
            Checks.same("the second cell with step " + steps[nth], loom.shade(1, 3), secondShades[nth]);
        }
    }

    private static void rowBeyondItsBounds() {
        for (int y : Bounds.beyond(0, 7)) {
            Refusals.outOfBounds("row(" + y + ", 0, 0)", loom -> loom.row(y, 0, 0));
            Refusals.outOfBounds("row(" + y + ", 256, 0)", loom -> loom.row(y, 256, 0));
            Refusals.outOfBounds("row(" + y + ", 0, -61)", loom -> loom.row(y, 0, -61));
        }
        for (int from : Bounds.beyond(0, 255)) {
            Refusals.illegal("row(7, " + from + ", 1)", loom -> loom.row(7, from, 1));
        }
        for (int step : Bounds.beyond(-60, 60)) {
            Refusals.illegal("row(7, 1, " + step + ")", loom -> loom.row(7, 1, step));
        }
    }

    private static void likeTakesARow() {
        TapestryRuns loom = new TapestryRuns();
        loom.row(2, 60, 10);
        Checks.same("like(3, 2)", loom.like(3, 2), 12);
        Checks.same("row 3", Patterns.shades(loom, 3), "60 70 80 90 100 110 120 130 140 150 160 170");
        Checks.same("row 2 stays", Patterns.shades(loom, 2), "60 70 80 90 100 110 120 130 140 150 160 170");
        Checks.same("row 4 stays", loom.shade(0, 4), 128);
        loom.row(2, 5, 0);
        Checks.same("row 3 stays then", loom.shade(0, 3), 60);
    }

    private static void likeCountsWhatIsChanged() {
        TapestryRuns loom = new TapestryRuns();
        Checks.same("none of two rows that are the same", loom.like(7, 0), 0);
        Checks.same("none of the row itself", loom.like(2, 2), 0);
        loom.set(11, 3, 129);
        Checks.same("one", loom.like(2, 3), 1);
        Checks.same("row 2", loom.shade(11, 2), 129);
        loom.set(0, 3, 127);
        Checks.same("one more", loom.like(4, 3), 2);
        loom.row(5, 0, 0);
        loom.set(6, 5, 128);
        Checks.same("all but one", loom.like(6, 5), 11);
        Checks.same("row 6", Patterns.shades(loom, 6), "0 0 0 0 0 0 128 0 0 0 0 0");
        loom.row(5, 1, 1);
        Checks.same("all", loom.like(7, 5), 12);
    }

    private static void likeAtItsBounds() {
        for (int y : Bounds.within(0, 7)) {
            for (int other : Bounds.within(0, 7)) {
                TapestryRuns loom = new TapestryRuns();
                loom.row(other, 10, 1);
                Checks.same("like(" + y + ", " + other + ")", loom.like(y, other), y == other ? 0 : 12);
                Checks.same("row " + y, Patterns.shades(loom, y), "10 11 12 13 14 15 16 17 18 19 20 21");
            }
        }
    }

    private static void likeBeyondItsBounds() {
        for (int y : Bounds.beyond(0, 7)) {
            Refusals.outOfBounds("like(" + y + ", 0)", loom -> loom.like(y, 0));
            Refusals.outOfBounds("like(7, " + y + ")", loom -> loom.like(7, y));
            Refusals.outOfBounds("like(" + y + ", " + y + ")", loom -> loom.like(y, y));
        }
    }

    private static void shadeAtItsBounds() {
        TapestryRuns loom = new TapestryRuns();
        for (int y = 0; y < 8; y++) {
            loom.row(y, 20 * y, 1);
        }
        for (int x : Bounds.within(0, 11)) {
            for (int y : Bounds.within(0, 7)) {
                Checks.same("shade(" + x + ", " + y + ")", loom.shade(x, y), 20 * y + x);
            }
        }
        Refusals.changesNothing("shade(11, 7)", asked -> asked.shade(11, 7));
    }

    private static void shadeBeyondItsBounds() {
        for (int x : Bounds.beyond(0, 11)) {
            Refusals.outOfBounds("shade(" + x + ", 0)", loom -> loom.shade(x, 0));
            Refusals.outOfBounds("shade(" + x + ", 7)", loom -> loom.shade(x, 7));
        }
        for (int y : Bounds.beyond(0, 7)) {
            Refusals.outOfBounds("shade(0, " + y + ")", loom -> loom.shade(0, y));
            Refusals.outOfBounds("shade(11, " + y + ")", loom -> loom.shade(11, y));
        }
    }

    private static void meanOfAllShades() {
        TapestryRuns loom = new TapestryRuns();
        Checks.same("mean at first", loom.mean(), 128.0);
        loom.set(11, 7, 129);
        Checks.same("mean with one of 129", loom.mean(), 12289.0 / 96.0);
        loom.set(11, 7, 127);
        Checks.same("mean with one of 127", loom.mean(), 12287.0 / 96.0);
        Checks.same("mean of 0", Patterns.plain(0).mean(), 0.0);
        Checks.same("mean of one 1", Patterns.ofTwo(1, 1, 0).mean(), 1.0 / 96.0);
        Checks.same("mean of 255", Patterns.plain(255).mean(), 255.0);
        Checks.same("mean of one 254", Patterns.ofTwo(1, 254, 255).mean(), 24479.0 / 96.0);
        Checks.same("mean of a slope", Patterns.slope().mean(), 110.0);
        Refusals.changesNothing("mean()", asked -> asked.mean());
    }
}
