/** Promises 2 (set), 3 (row), 4 (like), 11 (shade) and 20 (mean). */
public final class PatternTest {
    public static void main(String[] args) {
        setChangesOneCell();
        setRefuses();
        rowClimbsAndFalls();
        rowRefuses();
        likeTakesARow();
        likeRefuses();
        shadeTellsAndRefuses();
        meanOfAllShades();
        Checks.end();
    }

    private static void setChangesOneCell() {
        TapestryRuns loom = new TapestryRuns();
        Checks.same("set(3, 2, 7)", loom.set(3, 2, 7), 128);
        Checks.same("set(3, 2, 0)", loom.set(3, 2, 0), 7);
        Checks.same("set(0, 0, 255)", loom.set(0, 0, 255), 128);
        Checks.same("set(11, 7, 1)", loom.set(11, 7, 1), 128);
        Checks.same("row 2", Patterns.shades(loom, 2), "128 128 128 0 128 128 128 128 128 128 128 128");
        Checks.same("row 0", Patterns.shades(loom, 0), "255 128 128 128 128 128 128 128 128 128 128 128");
        Checks.same("row 7", Patterns.shades(loom, 7), "128 128 128 128 128 128 128 128 128 128 128 1");
        Checks.same("row 3", Patterns.shades(loom, 3), "128 128 128 128 128 128 128 128 128 128 128 128");
    }

    private static void setRefuses() {
        TapestryRuns loom = new TapestryRuns();
        Checks.outOfBounds(loom, "set(-1, 0, 0)", () -> loom.set(-1, 0, 0));
        Checks.outOfBounds(loom, "set(12, 0, 0)", () -> loom.set(12, 0, 0));
        Checks.outOfBounds(loom, "set(0, -1, 0)", () -> loom.set(0, -1, 0));
        Checks.outOfBounds(loom, "set(0, 8, 0)", () -> loom.set(0, 8, 0));
        Checks.illegal(loom, "set(0, 0, -1)", () -> loom.set(0, 0, -1));
        Checks.illegal(loom, "set(0, 0, 256)", () -> loom.set(0, 0, 256));
        Checks.outOfBounds(loom, "set(12, 0, 256)", () -> loom.set(12, 0, 256));
        Checks.outOfBounds(loom, "set(0, 8, -1)", () -> loom.set(0, 8, -1));
        Checks.outOfBounds(loom, "set of the least", () -> loom.set(Integer.MIN_VALUE, 0, 0));
        Checks.illegal(loom, "set to the most", () -> loom.set(0, 0, Integer.MAX_VALUE));
    }

    private static void rowClimbsAndFalls() {
        TapestryRuns loom = new TapestryRuns();
        Checks.same("row(0, 0, 20)", loom.row(0, 0, 20), 220);
        Checks.same("climbs", Patterns.shades(loom, 0), "0 20 40 60 80 100 120 140 160 180 200 220");
        Checks.same("row(1, 255, -20)", loom.row(1, 255, -20), 35);
        Checks.same("falls", Patterns.shades(loom, 1), "255 235 215 195 175 155 135 115 95 75 55 35");
        Checks.same("row(7, 100, 60)", loom.row(7, 100, 60), 255);
        Checks.same("held at 255", Patterns.shades(loom, 7), "100 160 220 255 255 255 255 255 255 255 255 255");
        Checks.same("row(6, 130, -60)", loom.row(6, 130, -60), 0);
        Checks.same("held at 0", Patterns.shades(loom, 6), "130 70 10 0 0 0 0 0 0 0 0 0");
        Checks.same("row(5, 9, 0)", loom.row(5, 9, 0), 9);
        Checks.same("row 4 stays", Patterns.shades(loom, 4), "128 128 128 128 128 128 128 128 128 128 128 128");
    }

    private static void rowRefuses() {
        TapestryRuns loom = new TapestryRuns();
        Checks.outOfBounds(loom, "row(-1, 0, 0)", () -> loom.row(-1, 0, 0));
        Checks.outOfBounds(loom, "row(8, 0, 0)", () -> loom.row(8, 0, 0));
        Checks.illegal(loom, "row(0, -1, 0)", () -> loom.row(0, -1, 0));
        Checks.illegal(loom, "row(0, 256, 0)", () -> loom.row(0, 256, 0));
        Checks.illegal(loom, "row(0, 0, 61)", () -> loom.row(0, 0, 61));
        Checks.illegal(loom, "row(0, 0, -61)", () -> loom.row(0, 0, -61));
        Checks.outOfBounds(loom, "row(8, 256, 61)", () -> loom.row(8, 256, 61));
        Checks.illegal(loom, "row(0, 0, MAX)", () -> loom.row(0, 0, Integer.MAX_VALUE));
    }

    private static void likeTakesARow() {
        TapestryRuns loom = new TapestryRuns();
        loom.row(2, 60, 10);
        Checks.same("like(3, 2)", loom.like(3, 2), 12);
        Checks.same("like(3, 2) again", loom.like(3, 2), 0);
        Checks.same("row 3", Patterns.shades(loom, 3), Patterns.shades(loom, 2));
        Checks.same("like(2, 2)", loom.like(2, 2), 0);
        loom.set(4, 3, 1);
        loom.set(11, 3, 2);
        Checks.same("like(2, 3)", loom.like(2, 3), 2);
        Checks.same("row 2", Patterns.shades(loom, 2), "60 70 80 90 1 110 120 130 140 150 160 2");
        Checks.same("like(7, 0)", loom.like(7, 0), 0);
        loom.row(0, 5, 0);
        Checks.same("row 7 stays", loom.shade(0, 7), 128);
    }

    private static void likeRefuses() {
        TapestryRuns loom = new TapestryRuns();
        loom.row(0, 1, 0);
        Checks.outOfBounds(loom, "like(-1, 0)", () -> loom.like(-1, 0));
        Checks.outOfBounds(loom, "like(8, 0)", () -> loom.like(8, 0));
        Checks.outOfBounds(loom, "like(1, -1)", () -> loom.like(1, -1));
        Checks.outOfBounds(loom, "like(1, 8)", () -> loom.like(1, 8));
    }

    private static void shadeTellsAndRefuses() {
        TapestryRuns loom = new TapestryRuns();
        loom.set(11, 0, 3);
        loom.set(0, 7, 4);
        Checks.same("shade(11, 0)", loom.shade(11, 0), 3);
        Checks.same("shade(0, 7)", loom.shade(0, 7), 4);
        Checks.same("shade(0, 1)", loom.shade(0, 1), 128);
        Checks.outOfBounds(loom, "shade(-1, 1)", () -> loom.shade(-1, 1));
        Checks.outOfBounds(loom, "shade(12, 0)", () -> loom.shade(12, 0));
        Checks.outOfBounds(loom, "shade(0, -1)", () -> loom.shade(0, -1));
        Checks.outOfBounds(loom, "shade(0, 8)", () -> loom.shade(0, 8));
    }

    private static void meanOfAllShades() {
        TapestryRuns loom = new TapestryRuns();
        Checks.same("mean at first", loom.mean(), 128.0);
        loom.set(11, 7, 129);
        Checks.same("mean with 129", loom.mean(), 12289.0 / 96.0);
        Checks.same("mean of 0", Patterns.plain(0).mean(), 0.0);
        Checks.same("mean of 255", Patterns.plain(255).mean(), 255.0);
        Checks.same("mean of a slope", Patterns.slope().mean(), 110.0);
    }
}
