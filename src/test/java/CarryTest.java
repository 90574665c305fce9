/**
 * How errors are carried, in the terms of weaving. A cell has an error, and what of it comes to another cell is measured:
 * the colours are 100 and 200, so that a cell is woven in colour 1 just if it wants 151 or more. All cells woven before
 * the measured one are of 100, and the errors are so small that they come to no third cell that counts.
 */
public final class CarryTest {
    /** For the errors 0 to 9: error * 7 / 16, * 3 / 16, * 5 / 16 (each cut), and what is left. */
    private static final int[][] SHARES = {{0, 0, 0, 0}, {0, 0, 0, 1}, {0, 0, 0, 2}, {1, 0, 0, 2}, {1, 0, 1, 2},
        {2, 0, 1, 2}, {2, 1, 1, 2}, {3, 1, 2, 1}, {3, 1, 2, 2}, {3, 1, 2, 3}};
    private static final int LARGEST = 8;

    public static void main(String[] args) {
        notAtAll();
        toTheCellAhead();
        toTheCellAheadInATurnedRow();
        aheadIsLostBeyondTheCloth();
        around();
        aroundTheLargestError();
        aroundWholeSixteenths();
        aroundFromAnEvenRowWhenTurning();
        aroundFromATurnedRow();
        aroundIsLostBeyondTheLastColumn();
        aroundIsLostBeyondTheFirstColumn();
        aroundIsLostBeyondTheEdgesOfTurnedRows();
        aroundIsLostBelowTheLastRow();
        byHand();
        Checks.end();
    }

    /** What of an error at one cell comes to another one, within rows 0 to 3. */
    private static int carried(int way, boolean turning, int error, int x, int y, int toX, int toY) {
        for (int shade = 126; shade <= 172; shade++) {
            if (colourOf(way, turning, error, x, y, toX, toY, shade) == 1) {
                return 151 - shade;
            }
        }
        return -1000;
    }

    private static int colourOf(int way, boolean turning, int error, int x, int y, int toX, int toY, int shade) {
        TapestryRuns loom = Patterns.ofTwo(48, 100, 200);
        loom.setColours(2);
        loom.setCarry(way);
        loom.setTurning(turning);
        // So the means of both halves are 100 and 200, cut, whatever the error and the shade.
        loom.set(0, 7, 120);
        loom.set(1, 7, 255);
        loom.set(2, 7, 220);
        loom.set(x, y, 100 + error);
        loom.set(toX, toY, shade);
        if (loom.palette(0) != 100 || loom.palette(1) != 200) {
            Checks.same("palette", Patterns.palette(loom), "100 200 -1 -1 -1 -1");
        }
        loom.weave();
        return loom.cell(toX, toY);
    }

    private static int sign(int error) {
        return error < 0 ? -1 : 1;
    }

    private static void comes(String what, int way, boolean turning, int error, int[] from, int[] to, int due) {
        Checks.same(what + " of " + error + " from " + from[0] + ", " + from[1],
                carried(way, turning, error, from[0], from[1], to[0], to[1]), due);
    }

    private static int[] at(int x, int y) {
        return new int[] {x, y};
    }

    private static void notAtAll() {
        for (int error : new int[] {-20, -1, 1, 20}) {
            comes("ahead", 0, false, error, at(5, 0), at(6, 0), 0);
            comes("below behind", 0, false, error, at(5, 0), at(4, 1), 0);
            comes("below", 0, false, error, at(5, 0), at(5, 1), 0);
            comes("below ahead", 0, false, error, at(5, 0), at(6, 1), 0);
            comes("turned, ahead", 0, true, error, at(5, 1), at(4, 1), 0);
        }
    }

    private static void toTheCellAhead() {
        for (int error : new int[] {-20, -1, 0, 1, 20}) {
            comes("ahead", 1, false, error, at(5, 0), at(6, 0), error);
            comes("ahead in row 1", 1, false, error, at(5, 1), at(6, 1), error);
            comes("to the first one ahead", 1, false, error, at(0, 0), at(1, 0), error);
            comes("to the last one ahead", 1, false, error, at(10, 0), at(11, 0), error);
            comes("ahead, by and by", 1, false, error, at(0, 0), at(11, 0), error);
            comes("not below", 1, false, error, at(5, 0), at(5, 1), 0);
            comes("not below ahead", 1, false, error, at(5, 0), at(6, 1), 0);
            comes("not below behind", 1, false, error, at(5, 0), at(4, 1), 0);
        }
    }

    private static void toTheCellAheadInATurnedRow() {
        for (int error : new int[] {-20, -1, 1, 20}) {
            comes("ahead", 1, true, error, at(5, 1), at(4, 1), error);
            comes("to the first one ahead", 1, true, error, at(11, 3), at(10, 3), error);
            comes("to the last one ahead", 1, true, error, at(1, 3), at(0, 3), error);
            comes("even row, ahead", 1, true, error, at(5, 2), at(6, 2), error);
            comes("even row, not behind, where the next row ends", 1, true, error, at(5, 0), at(0, 1), 0);
        }
    }

    private static void aheadIsLostBeyondTheCloth() {
        for (int error : new int[] {-20, 20}) {
            comes("not to the next row's first cell", 1, false, error, at(11, 0), at(0, 1), 0);
            comes("not below", 1, false, error, at(11, 0), at(11, 1), 0);
            comes("not to the next row's cells", 1, false, error, at(10, 0), at(0, 1), 0);
            comes("turning, not to the next row's first cell", 1, true, error, at(11, 0), at(11, 1), 0);
            comes("turning, not from 0, 1 to 0, 2", 1, true, error, at(0, 1), at(0, 2), 0);
            comes("turning, not from 0, 1 to 11, 2", 1, true, error, at(0, 1), at(11, 2), 0);
        }
    }

    private static void allShares(boolean turning, int error, int x, int y, int ahead) {
        int[] share = SHARES[error < 0 ? -error : error];
        comes("ahead", 2, turning, error, at(x, y), at(x + ahead, y), sign(error) * share[0]);
        comes("below behind", 2, turning, error, at(x, y), at(x - ahead, y + 1), sign(error) * share[1]);
        comes("below", 2, turning, error, at(x, y), at(x, y + 1), sign(error) * share[2]);
        comes("below ahead", 2, turning, error, at(x, y), at(x + ahead, y + 1), sign(error) * share[3]);
    }

    private static void around() {
        for (int error = -LARGEST; error <= LARGEST; error++) {
            allShares(false, error, 5, 0, 1);
            allShares(false, error, 5, 1, 1);
            allShares(false, error, 1, 0, 1);
            allShares(false, error, 10, 2, 1);
        }
    }

    private static void aroundTheLargestError() {
        allShares(false, 9, 5, 0, 1);
        allShares(false, -9, 5, 0, 1);
    }

    /**
     * The shares of 16 are whole, those of 15 and 17 are cut. The measured cell is the first one that the error comes to,
     * but for the last check: what is left comes to 11, 1, and 5 / 16 of what came to 11, 0 as well.
     */
    private static void aroundWholeSixteenths() {
        int[] errors = {15, 16, 17};
        int[] ahead = {6, 7, 7};
        int[] belowBehind = {2, 3, 3};
        int[] below = {4, 5, 5};
        int[] left = {3 + 1, 1 + 2, 2 + 2};
        for (int nth = 0; nth < errors.length; nth++) {
            for (int sign = -1; sign <= 1; sign += 2) {
                int error = sign * errors[nth];
                comes("7 / 16", 2, false, error, at(5, 0), at(6, 0), sign * ahead[nth]);
                comes("3 / 16", 2, false, error, at(11, 0), at(10, 1), sign * belowBehind[nth]);
                comes("5 / 16", 2, true, error, at(11, 0), at(11, 1), sign * below[nth]);
                comes("what is left", 2, true, error, at(10, 0), at(11, 1), sign * left[nth]);
            }
        }
    }

    private static void aroundFromAnEvenRowWhenTurning() {
        for (int error = -LARGEST; error <= LARGEST; error++) {
            allShares(true, error, 5, 0, 1);
            allShares(true, error, 10, 2, 1);
        }
    }

    private static void aroundFromATurnedRow() {
        for (int error = -LARGEST; error <= LARGEST; error++) {
            allShares(true, error, 5, 1, -1);
            allShares(true, error, 10, 1, -1);
            allShares(true, error, 1, 1, -1);
        }
    }

    private static void aroundIsLostBeyondTheLastColumn() {
        for (int error : new int[] {-LARGEST, LARGEST}) {
            int sign = sign(error);
            comes("below behind", 2, false, error, at(11, 0), at(10, 1), sign);
            comes("below", 2, false, error, at(11, 0), at(11, 1), sign * 2);
            comes("not to the next row's first cell", 2, false, error, at(11, 0), at(0, 1), 0);
            comes("not to the first cell of the row after it", 2, false, error, at(11, 0), at(0, 2), 0);
            comes("from 10, below ahead", 2, false, error, at(10, 0), at(11, 1), sign * 2);
        }
    }

    private static void aroundIsLostBeyondTheFirstColumn() {
        for (int error : new int[] {-LARGEST, LARGEST}) {
            int sign = sign(error);
            comes("ahead", 2, false, error, at(0, 0), at(1, 0), sign * 3);
            comes("not to the last cell of this row", 2, false, error, at(0, 0), at(11, 0), 0);
            comes("below", 2, false, error, at(0, 0), at(0, 1), sign * 2);
            comes("below ahead", 2, false, error, at(0, 0), at(1, 1), sign * 2);
            comes("from 1, below behind", 2, false, error, at(1, 0), at(0, 1), sign);
        }
    }

    private static void aroundIsLostBeyondTheEdgesOfTurnedRows() {
        for (int error : new int[] {-LARGEST, LARGEST}) {
            int sign = sign(error);
            comes("below behind", 2, true, error, at(0, 1), at(1, 2), sign);
            comes("below", 2, true, error, at(0, 1), at(0, 2), sign * 2);
            comes("not to the last cell of the next row", 2, true, error, at(0, 1), at(11, 2), 0);
            comes("ahead", 2, true, error, at(11, 1), at(10, 1), sign * 3);
            comes("below", 2, true, error, at(11, 1), at(11, 2), sign * 2);
            comes("below ahead", 2, true, error, at(11, 1), at(10, 2), sign * 2);
            comes("not to the first cell of the row after it", 2, true, error, at(11, 1), at(0, 3), 0);
        }
    }

    /** The colours are 50 and 150, and all cells of the last row have an error: it is lost, and the weaving ends. */
    private static void aroundIsLostBelowTheLastRow() {
        for (int way = 1; way <= 2; way++) {
            TapestryRuns loom = Patterns.between();
            loom.setCarry(way);
            loom.setTurning(way == 2);
            int knots = loom.weave();
            int off = loom.count(6);
            Checks.same("knots again", loom.weave(), knots);
            Checks.same("off again", loom.count(6), off);
        }
    }

    /** Row 0 wants 100, 121, 88, 116, 86, 115, 85, 115 ..; row 1 wants 110, 86, 117, 86 .., turned 94 and 123. */
    private static void byHand() {
        TapestryRuns loom = Patterns.ofRows(100, 100, 0, 0, 200, 200, 100, 100);
        loom.setColours(2);
        loom.weave();
        Checks.same("row 0", Patterns.colours(loom, 0), "010101010101");
        Checks.same("row 1", Patterns.colours(loom, 1).substring(0, 4), "1010");
        loom.setTurning(true);
        loom.weave();
        Checks.same("row 0, turning", Patterns.colours(loom, 0), "010101010101");
        Checks.same("row 1, turned", Patterns.colours(loom, 1).substring(8), "1010");
    }
}
