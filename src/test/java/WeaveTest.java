/** Promises 10 (weave) and 13 (cell), and the terms of weaving but for how errors are carried (CarryTest). */
public final class WeaveTest {
    public static void main(String[] args) {
        ofSeveralNearestTheFirst();
        ofTwoColoursOfOneShadeTheFirst();
        wantedMayBeLessThan0();
        wantedMayBeMoreThan255();
        wantedMayBeFarBeyond();
        offBySignsLeftAway();
        rowByRowWithoutTurning();
        turningInOddRows();
        theClothStaysAsItIs();
        theNextClothComesInItsPlace();
        nothingIsCarriedIntoTheNextCloth();
        threadOfOneColourRunsOut();
        threadOfAnyColourRunsOut();
        noThreadIsEnoughForNoCell();
        cellAtItsBounds();
        cellBeyondItsBounds();
        Checks.end();
    }

    /** Colours 101 and 199: 150 is as far from both. */
    private static void ofSeveralNearestTheFirst() {
        int[] shades = {149, 150, 151};
        int[] colours = {0, 0, 1};
        for (int nth = 0; nth < shades.length; nth++) {
            TapestryRuns loom = Patterns.ofTwo(48, 100, 199);
            loom.setColours(2);
            loom.set(5, 3, shades[nth]);
            Checks.same("palette", Patterns.palette(loom), "101 199 -1 -1 -1 -1");
            loom.weave();
            Checks.same("colour of " + shades[nth], loom.cell(5, 3), colours[nth]);
            Checks.same("before it", loom.cell(4, 3), 0);
            Checks.same("row 4", Patterns.colours(loom, 4), "111111111111");
        }
    }

    private static void ofTwoColoursOfOneShadeTheFirst() {
        TapestryRuns loom = Patterns.darkRow();
        Checks.same("palette", Patterns.palette(loom), "69 128 128 -1 -1 -1");
        loom.weave();
        Checks.same("row 0", Patterns.colours(loom, 0), "000000000000");
        Checks.same("row 1", Patterns.colours(loom, 1), "111111111111");
        Checks.same("row 7", Patterns.colours(loom, 7), "111111111111");
        Checks.same("off", loom.count(6), 12 * 59);
    }

    /** Row 0 begins with three shades; 46 other cells are of one shade and 47 of another. Errors go to the cell ahead. */
    private static TapestryRuns beginning(int a, int b, int c, int most, int others) {
        TapestryRuns loom = Patterns.plain(others);
        for (int y = 0; y < 4; y++) {
            loom.row(y, most, 0);
        }
        loom.set(0, 4, most);
        loom.set(0, 0, a);
        loom.set(1, 0, b);
        loom.set(2, 0, c);
        loom.setColours(2);
        loom.setCarry(1);
        return loom;
    }

    private static int thirdColour(TapestryRuns loom, String palette) {
        Checks.same("palette", Patterns.palette(loom), palette);
        loom.weave();
        return loom.cell(2, 0);
    }

    /** Colours 40 and 160, so that 100 is woven in 0 and 101 in 1. The third cell wants its shade, a - 40 and b - 40. */
    private static void wantedMayBeLessThan0() {
        String palette = "40 160 -1 -1 -1 -1";
        Checks.same("the second wants 1, the third 100", thirdColour(beginning(41, 0, 139, 41, 161), palette), 0);
        Checks.same("the second wants 1, the third 101", thirdColour(beginning(41, 0, 140, 41, 161), palette), 1);
        Checks.same("the second wants 0, the third 100", thirdColour(beginning(40, 0, 140, 41, 161), palette), 0);
        Checks.same("the second wants 0, the third 101", thirdColour(beginning(40, 0, 141, 41, 161), palette), 1);
        Checks.same("the second wants -1, the third 100", thirdColour(beginning(39, 0, 141, 41, 161), palette), 0);
        Checks.same("the second wants -1, the third 101", thirdColour(beginning(39, 0, 142, 41, 161), palette), 1);
        Checks.same("the second wants -2, the third 100", thirdColour(beginning(38, 0, 142, 41, 161), palette), 0);
        Checks.same("the second wants -2, the third 101", thirdColour(beginning(38, 0, 143, 41, 161), palette), 1);
    }

    /** Colours 95 and 215, so that 155 is woven in 0 and 156 in 1. The third cell wants its shade, a - 215 and b - 215. */
    private static void wantedMayBeMoreThan255() {
        String palette = "95 215 -1 -1 -1 -1";
        Checks.same("the second wants 254, the third 155", thirdColour(beginning(214, 255, 116, 215, 95), palette), 0);
        Checks.same("the second wants 254, the third 156", thirdColour(beginning(214, 255, 117, 215, 95), palette), 1);
        Checks.same("the second wants 255, the third 155", thirdColour(beginning(215, 255, 115, 215, 95), palette), 0);
        Checks.same("the second wants 255, the third 156", thirdColour(beginning(215, 255, 116, 215, 95), palette), 1);
        Checks.same("the second wants 256, the third 155", thirdColour(beginning(216, 255, 114, 215, 95), palette), 0);
        Checks.same("the second wants 256, the third 156", thirdColour(beginning(216, 255, 115, 215, 95), palette), 1);
        Checks.same("the second wants 257, the third 155", thirdColour(beginning(217, 255, 113, 215, 95), palette), 0);
        Checks.same("the second wants 257, the third 156", thirdColour(beginning(217, 255, 114, 215, 95), palette), 1);
    }

    /** Eleven cells are off by one error each, and the last one is woven in the other colour than its shade's for it. */
    private static void wantedMayBeFarBeyond() {
        TapestryRuns dark = Patterns.ofTwo(48, 60, 200);
        dark.setColours(2);
        dark.setCarry(1);
        dark.row(0, 0, 0);
        dark.set(11, 0, 255);
        Checks.same("palette", Patterns.palette(dark), "49 201 -1 -1 -1 -1");
        dark.weave();
        Checks.same("wants 255 - 11 * 49", dark.cell(11, 0), 0);
        TapestryRuns bright = Patterns.ofTwo(48, 200, 60);
        bright.setColours(2);
        bright.setCarry(1);
        bright.row(0, 255, 0);
        bright.set(11, 0, 0);
        Checks.same("palette", Patterns.palette(bright), "58 209 -1 -1 -1 -1");
        bright.weave();
        Checks.same("wants 0 + 11 * 46", bright.cell(11, 0), 1);
    }

    /** Colours 50 and 150: the cells of rows 0 and 1 are off by 50, all others by -50. */
    private static void offBySignsLeftAway() {
        TapestryRuns loom = Patterns.between();
        loom.setCarry(0);
        Checks.same("knots", loom.weave(), 16);
        Checks.same("row 2", Patterns.colours(loom, 2), "000000000000");
        Checks.same("row 6", Patterns.colours(loom, 6), "111111111111");
        Checks.same("off", loom.count(6), 4800);
    }

    /** By hand: row 2 wants 100, 150, 100, 150 .. */
    private static void rowByRowWithoutTurning() {
        TapestryRuns loom = Patterns.between();
        Checks.same("knots", loom.weave(), 56);
        Checks.same("row 1", Patterns.colours(loom, 1), "000000000000");
        Checks.same("row 2", Patterns.colours(loom, 2), "010101010101");
        Checks.same("row 3", Patterns.colours(loom, 3), "010101010101");
        Checks.same("row 7", Patterns.colours(loom, 7), "111111111111");
    }

    private static void turningInOddRows() {
        TapestryRuns loom = Patterns.ofRows(100, 100, 0, 0, 200, 200, 100, 100);
        loom.setColours(2);
        loom.setCarry(1);
        loom.setTurning(true);
        loom.weave();
        Checks.same("row 0", Patterns.colours(loom, 0), "010101010101");
        Checks.same("row 1", Patterns.colours(loom, 1), "101010101010");
        Checks.same("row 6", Patterns.colours(loom, 6), "010101010101");
        Checks.same("row 7", Patterns.colours(loom, 7), "101010101010");
    }

    private static void theClothStaysAsItIs() {
        TapestryRuns loom = Patterns.woven();
        loom.row(2, 0, 0);
        loom.row(3, 255, -20);
        loom.like(7, 3);
        loom.set(0, 0, 255);
        loom.setColours(6);
        loom.setCarry(2);
        loom.setTurning(true);
        loom.setPressing(true);
        loom.wind(0, 9);
        loom.would(5, 1);
        loom.advise(96);
        loom.palette(0);
        Checks.same("pressed knots of the same rows", loom.count(7), 21);
        loom.setPressing(false);
        Checks.same("row 0", Patterns.colours(loom, 0), "000000000000");
        Checks.same("row 2", Patterns.colours(loom, 2), "010101010101");
        Checks.same("row 7", Patterns.colours(loom, 7), "111111111111");
        Checks.same("shades", Patterns.threads(loom, 2), "50 150 -1 -1 -1 -1");
        Checks.same("cells", Patterns.threads(loom, 1), "48 48 0 0 0 0");
        Checks.same("off", loom.count(6), 4800);
        Checks.same("knots", loom.count(7), 56);
    }

    private static void theNextClothComesInItsPlace() {
        TapestryRuns loom = Patterns.woven();
        loom.row(2, 0, 0);
        loom.row(3, 0, 0);
        Checks.same("palette", Patterns.palette(loom), "0 150 -1 -1 -1 -1");
        loom.weave();
        Checks.same("row 2", Patterns.colours(loom, 2), "000000000000");
        Checks.same("shades", Patterns.threads(loom, 2), "0 150 -1 -1 -1 -1");
        Checks.same("woven in all", loom.count(4), 2);
        loom.row(2, 255, 0);
        Checks.same("knots of the third one", loom.weave(), loom.count(7));
        Checks.same("three in all", loom.count(4), 3);
    }

    /** What is carried beyond the last row, or was on the way, does not come to the cloth that is woven next. */
    private static void nothingIsCarriedIntoTheNextCloth() {
        for (int way = 0; way <= 2; way++) {
            TapestryRuns loom = Patterns.slope();
            loom.setCarry(way);
            loom.row(7, 33, 7);
            loom.weave();
            StringBuilder first = new StringBuilder();
            StringBuilder second = new StringBuilder();
            for (int y = 0; y < 8; y++) {
                first.append(Patterns.colours(loom, y));
            }
            int off = loom.count(6);
            loom.weave();
            for (int y = 0; y < 8; y++) {
                second.append(Patterns.colours(loom, y));
            }
            Checks.same("woven again", second.toString(), first.toString());
            Checks.same("off again", loom.count(6), off);
        }
    }

    private static TapestryRuns twiceWoven() {
        TapestryRuns loom = new TapestryRuns();
        loom.weave();
        loom.weave();
        return loom;
    }

    private static TapestryRuns twiceWovenAnd(int thread) {
        TapestryRuns loom = twiceWoven();
        loom.wind(0, thread - 8);
        loom.setTurning(true);
        loom.row(0, 7, 0);
        loom.row(0, 128, 0);
        return loom;
    }

    /** 96 cells of one colour: two cloths leave 8 of thread. */
    private static void threadOfOneColourRunsOut() {
        Checks.same("left", Patterns.threads(twiceWoven(), 0), "8 200 200 200 200 200");
        Refusals.wrongState(WeaveTest::twiceWoven, "a third one with 8", loom -> loom.weave());
        Refusals.wrongState(() -> twiceWovenAnd(95), "a third one with 95", loom -> loom.weave());
        TapestryRuns loom = twiceWovenAnd(96);
        Checks.same("a third one with 96", loom.weave(), 16);
        Checks.same("left then", Patterns.threads(loom, 0), "0 200 200 200 200 200");
        Checks.same("cloths then", loom.count(4), 3);
        Refusals.wrongState(WeaveTest::emptied, "a fourth one with 0", asked -> asked.weave());
        TapestryRuns more = twiceWovenAnd(97);
        Checks.same("a third one with 97", more.weave(), 16);
        Checks.same("left of 97", more.thread(0, 0), 1);
    }

    private static TapestryRuns emptied() {
        TapestryRuns loom = twiceWovenAnd(96);
        loom.weave();
        return loom;
    }

    /** The six colours of a slope take so many cells; 200 is enough for so many cloths. */
    private static final int[] TAKEN = {8, 16, 8, 16, 24, 24};

    /** The spool of one colour holds what a next cloth takes, and so much more; all others hold enough for many. */
    private static TapestryRuns allButOne(int colour, int more) {
        TapestryRuns loom = Patterns.slope();
        loom.setColours(6);
        for (int other = 0; other < 6; other++) {
            for (int time = 0; other != colour && time < 9; time++) {
                loom.wind(other, 99);
            }
        }
        for (int cloth = 0; cloth < 200 / TAKEN[colour]; cloth++) {
            loom.weave();
        }
        loom.wind(colour, TAKEN[colour] - 200 % TAKEN[colour] + more);
        loom.row(0, 220, -20);
        return loom;
    }

    private static void threadOfAnyColourRunsOut() {
        for (int colour = 0; colour < 6; colour++) {
            int missing = colour;
            Refusals.wrongState(() -> allButOne(missing, -1), "short of colour " + colour, loom -> loom.weave());
            TapestryRuns enough = allButOne(colour, 0);
            int cloths = enough.count(4);
            int thread = enough.count(5);
            Checks.same("knots with enough of colour " + colour, enough.weave(), 48);
            Checks.same("nothing left of it", enough.thread(colour, 0), 0);
            Checks.same("thread of all cells is taken", enough.count(5), thread - 96);
            Checks.same("one more cloth", enough.count(4), cloths + 1);
            Checks.same("cells", Patterns.threads(enough, 1), "8 16 8 16 24 24");
            TapestryRuns more = allButOne(colour, 1);
            more.weave();
            Checks.same("one left of colour " + colour, more.thread(colour, 0), 1);
        }
    }

    private static void noThreadIsEnoughForNoCell() {
        TapestryRuns loom = allButOne(5, 0);
        loom.weave();
        Checks.same("nothing of colour 5", loom.thread(5, 0), 0);
        for (int y = 0; y < 8; y++) {
            loom.row(y, 9, 0);
        }
        int thread = loom.thread(0, 0);
        Checks.same("a cloth of colour 0", loom.weave(), 16);
        Checks.same("takes that", loom.thread(0, 0), thread - 96);
        Checks.same("still nothing of colour 5", loom.thread(5, 0), 0);
    }

    private static void cellAtItsBounds() {
        TapestryRuns loom = Patterns.ofTwo(48, 0, 200);
        loom.setColours(2);
        loom.set(0, 0, 200);
        loom.set(11, 0, 200);
        loom.set(1, 1, 200);
        loom.set(10, 6, 0);
        loom.set(0, 7, 0);
        loom.set(11, 7, 0);
        loom.weave();
        Checks.same("row 0", Patterns.colours(loom, 0), "100000000001");
        Checks.same("row 1", Patterns.colours(loom, 1), "010000000000");
        Checks.same("row 2", Patterns.colours(loom, 2), "000000000000");
        Checks.same("row 6", Patterns.colours(loom, 6), "111111111101");
        Checks.same("row 7", Patterns.colours(loom, 7), "011111111110");
    }

    private static void cellBeyondItsBounds() {
        for (int x : Bounds.beyond(0, 11)) {
            Refusals.outOfBounds("cell(" + x + ", 0)", loom -> loom.cell(x, 0));
            Refusals.outOfBounds("cell(" + x + ", 7)", loom -> loom.cell(x, 7));
        }
        for (int y : Bounds.beyond(0, 7)) {
            Refusals.outOfBounds("cell(0, " + y + ")", loom -> loom.cell(0, y));
            Refusals.outOfBounds("cell(11, " + y + ")", loom -> loom.cell(11, y));
        }
        for (int x : Bounds.within(0, 11)) {
            for (int y : Bounds.within(0, 7)) {
                Refusals.wrongState(TapestryRuns::new, "cell(" + x + ", " + y + ")", loom -> loom.cell(x, y));
                Refusals.changesNothing("cell(" + x + ", " + y + ")", loom -> loom.cell(x, y));
            }
        }
    }
}
