/** Promises 10 (weave) and 13 (cell), and the terms of weaving. */
public final class WeaveTest {
    public static void main(String[] args) {
        ofSeveralNearestTheFirst();
        notCarried();
        carriedAhead();
        carriedAheadTurning();
        carriedAround();
        carriedAroundTurning();
        ofTwoColoursOfOneShadeTheFirst();
        theClothStaysAsItIs();
        threadRunsOut();
        threadOfAnotherColourRunsOut();
        cellRefuses();
        Checks.end();
    }

    private static void ofSeveralNearestTheFirst() {
        TapestryRuns loom = Patterns.ofRows(100, 100, 100, 100, 199, 199, 199, 199);
        loom.setColours(2);
        loom.setCarry(0);
        loom.set(5, 3, 150);
        Checks.same("palette", Patterns.palette(loom), "101 199 -1 -1 -1 -1");
        loom.weave();
        Checks.same("row 3", Patterns.colours(loom, 3), "000000000000");
        Checks.same("row 4", Patterns.colours(loom, 4), "111111111111");
        Checks.same("off", loom.count(6), 47 + 49);
    }

    private static void notCarried() {
        TapestryRuns loom = Patterns.between();
        loom.setCarry(0);
        Checks.same("knots", loom.weave(), 16);
        Checks.same("row 2", Patterns.colours(loom, 2), "000000000000");
        Checks.same("row 6", Patterns.colours(loom, 6), "111111111111");
    }

    private static void carriedAhead() {
        TapestryRuns loom = Patterns.between();
        Checks.same("knots", loom.weave(), 56);
        Checks.same("row 1", Patterns.colours(loom, 1), "000000000000");
        Checks.same("row 2", Patterns.colours(loom, 2), "010101010101");
        Checks.same("row 3", Patterns.colours(loom, 3), "010101010101");
        Checks.same("row 7", Patterns.colours(loom, 7), "111111111111");
        Checks.same("off", loom.count(6), 4800);
    }

    private static void carriedAheadTurning() {
        TapestryRuns loom = Patterns.between();
        loom.setTurning(true);
        Checks.same("knots", loom.weave(), 56);
        Checks.same("row 2", Patterns.colours(loom, 2), "010101010101");
        Checks.same("row 3", Patterns.colours(loom, 3), "101010101010");
        Checks.same("row 4", Patterns.colours(loom, 4), "010101010101");
    }

    /** By hand: row 0 wants 100, 121, 88, 116, 86, 115, 85, 115 ..; row 1 wants 110, 86, 117, 86 .. */
    private static void carriedAround() {
        TapestryRuns loom = Patterns.ofRows(100, 100, 0, 0, 200, 200, 100, 100);
        loom.setColours(2);
        loom.weave();
        Checks.same("row 0", Patterns.colours(loom, 0), "010101010101");
        Checks.same("row 1", Patterns.colours(loom, 1).substring(0, 4), "1010");
    }

    /** By hand: row 1 wants 100 - 10 + 4 at x 11, and then 100 + 10 - 4 - 6 + 19 at x 10. */
    private static void carriedAroundTurning() {
        TapestryRuns loom = Patterns.ofRows(100, 100, 0, 0, 200, 200, 100, 100);
        loom.setColours(2);
        loom.setTurning(true);
        loom.weave();
        Checks.same("row 0", Patterns.colours(loom, 0), "010101010101");
        Checks.same("row 1", Patterns.colours(loom, 1).substring(8), "1010");
    }

    private static void ofTwoColoursOfOneShadeTheFirst() {
        TapestryRuns loom = Patterns.darkRow();
        loom.weave();
        Checks.same("row 0", Patterns.colours(loom, 0), "000000000000");
        Checks.same("row 1", Patterns.colours(loom, 1), "111111111111");
        Checks.same("cells", Patterns.threads(loom, 1), "12 84 0 0 0 0");
        Checks.same("off", loom.count(6), 12 * 59);
    }

    private static void theClothStaysAsItIs() {
        TapestryRuns loom = Patterns.between();
        loom.weave();
        loom.row(2, 0, 0);
        loom.row(3, 255, -20);
        loom.setColours(6);
        loom.setCarry(2);
        loom.setTurning(true);
        loom.would(5, 1);
        loom.advise(96);
        loom.palette(0);
        Checks.same("row 2", Patterns.colours(loom, 2), "010101010101");
        Checks.same("shades", Patterns.threads(loom, 2), "50 150 -1 -1 -1 -1");
        Checks.same("cells", Patterns.threads(loom, 1), "48 48 0 0 0 0");
        Checks.same("off", loom.count(6), 4800);
        Checks.same("knots", loom.count(7), 56);
        loom.weave();
        Checks.same("the next one comes in its place", Patterns.colours(loom, 2), "000000000000");
        Checks.same("woven in all", loom.count(4), 2);
    }

    private static void threadRunsOut() {
        TapestryRuns loom = new TapestryRuns();
        Checks.same("first", loom.weave(), 16);
        Checks.same("second", loom.weave(), 16);
        Checks.same("left", loom.thread(0, 0), 8);
        Checks.wrongState(loom, "third", () -> loom.weave());
        loom.wind(0, 87);
        Checks.wrongState(loom, "third with 95", () -> loom.weave());
        Checks.same("cloths", loom.count(4), 2);
        loom.wind(0, 1);
        Checks.same("third with 96", loom.weave(), 16);
        Checks.same("left then", Patterns.threads(loom, 0), "0 200 200 200 200 200");
        Checks.same("cloths then", loom.count(4), 3);
    }

    private static void threadOfAnotherColourRunsOut() {
        TapestryRuns loom = Patterns.darkRow();
        loom.weave();
        loom.weave();
        Checks.same("left", Patterns.threads(loom, 0), "176 32 200 200 200 200");
        loom.row(0, 20, 0);
        Checks.wrongState(loom, "a cloth of 84 in colour 1", () -> loom.weave());
        Checks.same("the kept one", Patterns.threads(loom, 2), "69 128 128 -1 -1 -1");
        Checks.same("nothing is taken", Patterns.threads(loom, 0), "176 32 200 200 200 200");
    }

    private static void cellRefuses() {
        TapestryRuns loom = new TapestryRuns();
        Checks.outOfBounds(loom, "cell(12, 0) without a cloth", () -> loom.cell(12, 0));
        Checks.wrongState(loom, "cell(11, 7) without a cloth", () -> loom.cell(11, 7));
        loom.weave();
        Checks.same("cell(11, 7)", loom.cell(11, 7), 0);
        Checks.outOfBounds(loom, "cell(-1, 0)", () -> loom.cell(-1, 0));
        Checks.outOfBounds(loom, "cell(12, 0)", () -> loom.cell(12, 0));
        Checks.outOfBounds(loom, "cell(0, -1)", () -> loom.cell(0, -1));
        Checks.outOfBounds(loom, "cell(0, 8)", () -> loom.cell(0, 8));
    }
}
