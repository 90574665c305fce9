/** Promises 14 (run) and 15 (knots), and the terms of runs and knots. */
public final class RunsTest {
    public static void main(String[] args) {
        nineAtMost();
        nineAtMostFromAnyPlace();
        nineAtMostOfAnotherColour();
        runsOfASlope();
        runsOfOne();
        runsFromX0WhenTurning();
        runAtItsBounds();
        runBeyondItsBounds();
        runWithoutACloth();
        noSuchRun();
        knotsAreRuns();
        pressedIfTheSameCellByCell();
        pressedByColoursNotByShades();
        notPressedByTheRowTwoAbove();
        neverPressedIsTheRow0();
        pressedAsTheLoomIsNow();
        knotsBeyondItsBounds();
        Checks.end();
    }

    /** Rows 0 to 3 of 0 and rows 4 to 7 of 200, in two colours; the shade of some cells of row 0 is 200, too. */
    private static TapestryRuns halves(int... bright) {
        TapestryRuns loom = Patterns.ofTwo(48, 0, 200);
        loom.setColours(2);
        for (int x : bright) {
            loom.set(x, 0, 200);
        }
        return loom;
    }

    private static void lengths(String what, TapestryRuns loom, String colours, String due) {
        loom.weave();
        Checks.same(what + ", colours", Patterns.colours(loom, 0), colours);
        Checks.same(what + ", lengths", Patterns.lengths(loom, 0), due);
        int place = loom.knots(0) - 1;
        Checks.same(what + ", last colour", loom.run(0, place, 0), colours.charAt(11) - '0');
        Checks.same(what + ", the run behind", Answers.to(asked -> asked.run(0, place + 1, 0), loom),
                IndexOutOfBoundsException.class.getName());
    }

    private static void nineAtMost() {
        lengths("eight", halves(8, 9, 10, 11), "000000001111", "8 4");
        lengths("nine", halves(9, 10, 11), "000000000111", "9 3");
        lengths("ten", halves(10, 11), "000000000011", "9 1 2");
        lengths("eleven", halves(11), "000000000001", "9 2 1");
        lengths("twelve", halves(), "000000000000", "9 3");
    }

    private static void nineAtMostFromAnyPlace() {
        lengths("eight", halves(0, 9, 10, 11), "100000000111", "1 8 3");
        lengths("nine", halves(0, 10, 11), "100000000011", "1 9 2");
        lengths("ten", halves(0, 11), "100000000001", "1 9 1 1");
        lengths("nine at the end", halves(0, 1, 2), "111000000000", "3 9");
        lengths("ten at the end", halves(0, 1), "110000000000", "2 9 1");
    }

    private static void nineAtMostOfAnotherColour() {
        lengths("eight", halves(1, 2, 3, 4, 5, 6, 7, 8), "011111111000", "1 8 3");
        lengths("nine", halves(1, 2, 3, 4, 5, 6, 7, 8, 9), "011111111100", "1 9 2");
        lengths("ten", halves(1, 2, 3, 4, 5, 6, 7, 8, 9, 10), "011111111110", "1 9 1 1");
    }

    private static void runsOfASlope() {
        TapestryRuns loom = Patterns.slope();
        loom.weave();
        Checks.same("row 5", Patterns.colours(loom, 5), "000111122222");
        int[] lengths = {3, 4, 5};
        for (int place = 0; place < 3; place++) {
            Checks.same("colour of " + place, loom.run(5, place, 0), place);
            Checks.same("length of " + place, loom.run(5, place, 1), lengths[place]);
        }
        Checks.same("knots", loom.knots(5), 3);
    }

    private static void runsOfOne() {
        TapestryRuns loom = Patterns.woven();
        for (int place = 0; place < 12; place++) {
            Checks.same("colour of " + place, loom.run(2, place, 0), place % 2);
            Checks.same("length of " + place, loom.run(2, place, 1), 1);
        }
        Checks.same("knots", loom.knots(2), 12);
    }

    private static void runsFromX0WhenTurning() {
        TapestryRuns loom = Patterns.slope();
        loom.setTurning(true);
        loom.row(3, 0, 0);
        loom.weave();
        Checks.same("row 3", Patterns.colours(loom, 3), "000000000000");
        Checks.same("lengths of row 3", Patterns.lengths(loom, 3), "9 3");
        Checks.same("first colour of row 5", loom.run(5, 0, 0), 0);
    }

    private static void runAtItsBounds() {
        TapestryRuns loom = halves(0);
        loom.set(0, 7, 0);
        loom.weave();
        int[] colours = {1, 0, 1, 0};
        int[] rows = {0, 1, 6, 7};
        for (int nth = 0; nth < 4; nth++) {
            Checks.same("colour, row " + rows[nth], loom.run(rows[nth], 0, 0), colours[nth]);
            Checks.same("length, row " + rows[nth], loom.run(rows[nth], 0, 1), nth == 0 || nth == 3 ? 1 : 9);
        }
        Refusals.changesNothing("run(0, 0, 0)", asked -> asked.run(0, 0, 0));
        Refusals.changesNothing("run(7, 1, 1)", asked -> asked.run(7, 1, 1));
    }

    private static void runBeyondItsBounds() {
        for (int y : Bounds.beyond(0, 7)) {
            Refusals.outOfBounds("run(" + y + ", 0, 0)", loom -> loom.run(y, 0, 0));
            Refusals.outOfBounds("run(" + y + ", 12, 1)", loom -> loom.run(y, 12, 1));
        }
        for (int what : Bounds.beyond(0, 1)) {
            Refusals.outOfBounds("run(0, 0, " + what + ")", loom -> loom.run(0, 0, what));
            Refusals.outOfBounds("run(7, -1, " + what + ")", loom -> loom.run(7, -1, what));
        }
    }

    /** Row and what are asked ahead of the cloth (in runBeyondItsBounds), the place is not. */
    private static void runWithoutACloth() {
        for (int y : Bounds.within(0, 7)) {
            for (int what = 0; what <= 1; what++) {
                int asked = what;
                Refusals.wrongState(TapestryRuns::new, "run(" + y + ", 0, " + what + ")", loom -> loom.run(y, 0, asked));
            }
        }
        for (int place : Bounds.beyond(0, 11)) {
            Refusals.wrongState(TapestryRuns::new, "run(0, " + place + ", 0)", loom -> loom.run(0, place, 0));
        }
    }

    private static TapestryRuns wovenHalves() {
        TapestryRuns loom = halves();
        loom.weave();
        return loom;
    }

    private static void noSuchRun() {
        for (int place : Bounds.beyond(0, 1)) {
            Refusals.outOfBounds(RunsTest::wovenHalves, "of 2, run(0, " + place + ", 0)", loom -> loom.run(0, place, 0));
            Refusals.outOfBounds(RunsTest::wovenHalves, "of 2, run(7, " + place + ", 1)", loom -> loom.run(7, place, 1));
        }
        for (int place : Bounds.beyond(0, 11)) {
            Refusals.outOfBounds(Patterns::woven, "of 12, run(2, " + place + ", 1)", loom -> loom.run(2, place, 1));
        }
        TapestryRuns pressed = wovenHalves();
        pressed.setPressing(true);
        Checks.same("a pressed row has its runs", pressed.run(1, 1, 1), 3);
        Checks.same("but one knot", pressed.knots(1), 1);
    }

    private static void knotsAreRuns() {
        TapestryRuns loom = halves(3, 4, 11);
        loom.setPressing(true);
        loom.weave();
        loom.setPressing(false);
        Checks.same("row 0", Patterns.colours(loom, 0), "000110000001");
        Checks.same("knots(0)", loom.knots(0), 4);
        for (int y = 1; y < 8; y++) {
            Checks.same("knots(" + y + ")", loom.knots(y), 2);
        }
        Checks.same("in all", loom.count(7), 18);
        TapestryRuns chequered = Patterns.chequered();
        Checks.same("the most", chequered.weave(), 96);
        Checks.same("knots(7)", chequered.knots(7), 12);
    }

    /** Row 1 and row 2 differ in one cell, or in none. */
    private static void pressedIfTheSameCellByCell() {
        TapestryRuns same = halves();
        same.setPressing(true);
        Checks.same("knots in all", same.weave(), 2 + 1 + 1 + 1 + 2 + 1 + 1 + 1);
        Checks.same("no cell", same.knots(1), 1);
        for (int x : Bounds.within(0, 11)) {
            TapestryRuns loom = halves(x);
            loom.setPressing(true);
            loom.weave();
            Checks.same("not pressed but for " + x, loom.knots(1), 2);
            Checks.same("the next one is", loom.knots(2), 1);
        }
        TapestryRuns shifted = halves(3, 4);
        shifted.set(4, 1, 200);
        shifted.set(5, 1, 200);
        shifted.setPressing(true);
        shifted.weave();
        Checks.same("as many runs, not the same", shifted.knots(1), 3);
    }

    private static void pressedByColoursNotByShades() {
        TapestryRuns loom = halves();
        loom.row(1, 3, 1);
        loom.setPressing(true);
        loom.weave();
        Checks.same("other shades, but the same colours", loom.knots(1), 1);
        TapestryRuns turned = Patterns.between();
        turned.setTurning(true);
        turned.setPressing(true);
        Checks.same("woven", turned.weave(), 54);
        Checks.same("the same shades, but other colours", turned.knots(3), 12);
    }

    private static void notPressedByTheRowTwoAbove() {
        TapestryRuns loom = halves();
        loom.row(1, 200, 0);
        loom.row(6, 0, 0);
        loom.setPressing(true);
        loom.weave();
        int[] due = {2, 2, 2, 1, 2, 1, 2, 2};
        for (int y = 0; y < 8; y++) {
            Checks.same("knots(" + y + ")", loom.knots(y), due[y]);
        }
    }

    /** All rows have the same colours, so that the last one has those of the row 0, too. */
    private static void neverPressedIsTheRow0() {
        TapestryRuns loom = new TapestryRuns();
        loom.setPressing(true);
        Checks.same("in all", loom.weave(), 9);
        Checks.same("knots(0)", loom.knots(0), 2);
        for (int y = 1; y < 8; y++) {
            Checks.same("knots(" + y + ")", loom.knots(y), 1);
        }
    }

    private static void pressedAsTheLoomIsNow() {
        TapestryRuns loom = Patterns.woven();
        Checks.same("not pressed", loom.knots(3), 12);
        loom.setPressing(true);
        int[] due = {2, 1, 12, 1, 1, 1, 2, 1};
        for (int y = 0; y < 8; y++) {
            Checks.same("pressed knots of " + y, loom.knots(y), due[y]);
        }
        Checks.same("the runs stay", loom.run(3, 11, 0), 1);
        Checks.same("in all", loom.count(7), 21);
        loom.setPressing(false);
        Checks.same("not pressed again", loom.knots(3), 12);
    }

    private static void knotsBeyondItsBounds() {
        for (int y : Bounds.beyond(0, 7)) {
            Refusals.outOfBounds("knots(" + y + ")", loom -> loom.knots(y));
        }
        for (int y : Bounds.within(0, 7)) {
            Refusals.wrongState(TapestryRuns::new, "knots(" + y + ") without a cloth", loom -> loom.knots(y));
            Refusals.changesNothing("knots(" + y + ")", loom -> loom.knots(y));
        }
    }
}
