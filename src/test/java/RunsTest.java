/** Promises 14 (run) and 15 (knots), and the terms of runs and knots. */
public final class RunsTest {
    public static void main(String[] args) {
        nineAtMost();
        runsOfASlope();
        runsOfOne();
        nineThenAnotherColour();
        runRefuses();
        pressedRows();
        knotsRefuses();
        Checks.end();
    }

    private static void nineAtMost() {
        TapestryRuns loom = new TapestryRuns();
        loom.weave();
        Checks.same("first length", loom.run(0, 0, 1), 9);
        Checks.same("second length", loom.run(0, 1, 1), 3);
        Checks.same("second colour", loom.run(0, 1, 0), 0);
        Checks.same("knots", loom.knots(0), 2);
    }

    private static void runsOfASlope() {
        TapestryRuns loom = Patterns.slope();
        loom.weave();
        Checks.same("row 5", Patterns.colours(loom, 5), "000111122222");
        int[] lengths = {3, 4, 5};
        for (int place = 0; place < 3; place++) {
            Checks.same("colour of " + place, loom.run(5, place, 0), place);
            Checks.same("length of " + place, loom.run(5, place, 1), lengths[place]);
        }
        Checks.same("knots", loom.knots(5), 3);
        Checks.outOfBounds(loom, "run(5, 3, 0)", () -> loom.run(5, 3, 0));
    }

    private static void runsOfOne() {
        TapestryRuns loom = Patterns.between();
        loom.weave();
        for (int place = 0; place < 12; place++) {
            Checks.same("colour of " + place, loom.run(2, place, 0), place % 2);
            Checks.same("length of " + place, loom.run(2, place, 1), 1);
        }
        Checks.same("knots", loom.knots(2), 12);
        Checks.outOfBounds(loom, "run(2, 12, 1)", () -> loom.run(2, 12, 1));
    }

    private static void nineThenAnotherColour() {
        TapestryRuns loom = Patterns.ofRows(0, 0, 0, 0, 200, 200, 200, 200);
        loom.setColours(2);
        loom.setCarry(0);
        loom.set(9, 0, 200);
        loom.set(10, 0, 200);
        loom.set(0, 7, 0);
        loom.set(11, 7, 0);
        loom.weave();
        Checks.same("row 0", Patterns.colours(loom, 0), "000000000110");
        Checks.same("its knots", loom.knots(0), 3);
        Checks.same("its first length", loom.run(0, 0, 1), 9);
        Checks.same("its second length", loom.run(0, 1, 1), 2);
        Checks.same("its second colour", loom.run(0, 1, 0), 1);
        Checks.same("row 7", Patterns.colours(loom, 7), "011111111110");
        Checks.same("its knots", loom.knots(7), 4);
        Checks.same("length of nine", loom.run(7, 1, 1), 9);
        Checks.same("length of what is left", loom.run(7, 2, 1), 1);
        Checks.same("colour of what is left", loom.run(7, 2, 0), 1);
    }

    private static void runRefuses() {
        TapestryRuns loom = new TapestryRuns();
        Checks.outOfBounds(loom, "run(8, 0, 0) without a cloth", () -> loom.run(8, 0, 0));
        Checks.outOfBounds(loom, "run(-1, 0, 0) without a cloth", () -> loom.run(-1, 0, 0));
        Checks.outOfBounds(loom, "run(0, 0, 2) without a cloth", () -> loom.run(0, 0, 2));
        Checks.outOfBounds(loom, "run(0, 0, -1) without a cloth", () -> loom.run(0, 0, -1));
        Checks.wrongState(loom, "run(0, 99, 0) without a cloth", () -> loom.run(0, 99, 0));
        Checks.wrongState(loom, "run(0, -1, 1) without a cloth", () -> loom.run(0, -1, 1));
        loom.weave();
        Checks.outOfBounds(loom, "run(8, 0, 0)", () -> loom.run(8, 0, 0));
        Checks.outOfBounds(loom, "run(-1, 0, 0)", () -> loom.run(-1, 0, 0));
        Checks.outOfBounds(loom, "run(0, 0, 2)", () -> loom.run(0, 0, 2));
        Checks.outOfBounds(loom, "run(0, 0, -1)", () -> loom.run(0, 0, -1));
        Checks.outOfBounds(loom, "run(0, -1, 0)", () -> loom.run(0, -1, 0));
        Checks.outOfBounds(loom, "run(0, 2, 0)", () -> loom.run(0, 2, 0));
        Checks.outOfBounds(loom, "run(0, MAX, 0)", () -> loom.run(0, Integer.MAX_VALUE, 0));
    }

    private static void pressedRows() {
        TapestryRuns loom = Patterns.between();
        loom.weave();
        loom.setPressing(true);
        int[] due = {2, 1, 12, 1, 1, 1, 2, 1};
        for (int y = 0; y < 8; y++) {
            Checks.same("pressed knots of " + y, loom.knots(y), due[y]);
        }
        Checks.same("the runs stay", loom.run(3, 11, 0), 1);
        Checks.same("in all", loom.count(7), 21);
        loom.setPressing(false);
        Checks.same("not pressed", loom.knots(3), 12);
        loom.setPressing(true);
        loom.setTurning(true);
        Checks.same("woven turning", loom.weave(), 54);
        Checks.same("turned row", loom.knots(3), 12);
    }

    private static void knotsRefuses() {
        TapestryRuns loom = new TapestryRuns();
        Checks.outOfBounds(loom, "knots(-1) without a cloth", () -> loom.knots(-1));
        Checks.outOfBounds(loom, "knots(8) without a cloth", () -> loom.knots(8));
        Checks.wrongState(loom, "knots(7) without a cloth", () -> loom.knots(7));
        loom.weave();
        Checks.outOfBounds(loom, "knots(-1)", () -> loom.knots(-1));
        Checks.outOfBounds(loom, "knots(8)", () -> loom.knots(8));
        Checks.same("knots(7)", loom.knots(7), 2);
    }
}
