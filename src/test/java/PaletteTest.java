/** Promise 12 (palette), and the terms of a palette. */
public final class PaletteTest {
    public static void main(String[] args) {
        oneShadeIsOneColour();
        boxesAreSplitByTheirLength();
        theFirstOfSeveralIsSplit();
        theWidestIsSplit();
        slopeIsSplit();
        paletteIsOfThePatternNow();
        refuses();
        Checks.end();
    }

    private static void oneShadeIsOneColour() {
        TapestryRuns loom = Patterns.plain(0);
        loom.setColours(6);
        Checks.same("palette of 0", Patterns.palette(loom), "0 -1 -1 -1 -1 -1");
        Checks.same("palette of 255", Patterns.palette(Patterns.plain(255)), "255 -1 -1 -1 -1 -1");
    }

    private static void boxesAreSplitByTheirLength() {
        TapestryRuns loom = Patterns.darkRow();
        String[] due = {"98 128 -1 -1 -1 -1", "69 128 128 -1 -1 -1", "10 128 128 128 -1 -1",
            "10 128 128 128 -1 -1", "10 128 128 128 -1 -1"};
        for (int many = 2; many <= 6; many++) {
            loom.setColours(many);
            Checks.same("palette of " + many, Patterns.palette(loom), due[many - 2]);
        }
    }

    private static void theFirstOfSeveralIsSplit() {
        TapestryRuns loom = Patterns.ofRows(0, 0, 100, 100, 155, 155, 255, 255);
        Checks.same("palette", Patterns.palette(loom), "0 100 205 -1 -1 -1");
    }

    private static void theWidestIsSplit() {
        TapestryRuns loom = Patterns.ofRows(1, 1, 100, 100, 155, 155, 255, 255);
        Checks.same("palette", Patterns.palette(loom), "50 155 255 -1 -1 -1");
    }

    private static void slopeIsSplit() {
        TapestryRuns loom = Patterns.slope();
        String[] due = {"50 170 -1 -1 -1 -1", "20 80 170 -1 -1 -1", "20 80 140 200 -1 -1",
            "6 33 80 140 200 -1", "6 33 66 93 140 200"};
        for (int many = 2; many <= 6; many++) {
            loom.setColours(many);
            Checks.same("palette of " + many, Patterns.palette(loom), due[many - 2]);
        }
    }

    private static void paletteIsOfThePatternNow() {
        TapestryRuns loom = Patterns.plain(40);
        loom.weave();
        loom.row(0, 10, 0);
        Checks.same("after weaving", Patterns.palette(loom), "25 40 40 -1 -1 -1");
        Checks.same("the kept one", Patterns.threads(loom, 2), "40 -1 -1 -1 -1 -1");
    }

    private static void refuses() {
        TapestryRuns loom = new TapestryRuns();
        Checks.outOfBounds(loom, "palette(-1)", () -> loom.palette(-1));
        Checks.outOfBounds(loom, "palette(6)", () -> loom.palette(6));
    }
}
