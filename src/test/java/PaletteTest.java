/** Promise 12 (palette), and the terms of a palette. Rows have 12 cells each: four of them are half of all. */
public final class PaletteTest {
    public static void main(String[] args) {
        asManyAsToldIfThereAreShades();
        oneShadeIsOneColour();
        noBoxOfOneShadeIsSplit();
        aDifferenceOfOneIsEnough();
        theGreatestDifferenceIsSplit();
        theFirstOfSeveralIsSplit();
        theFirstOfSeveralLaterOnesIsSplit();
        splitByTheLength();
        twoColoursOfOneShade();
        shadesAreSorted();
        theMeanIsCut();
        paletteIsOfPatternAndLoomNow();
        coloursBeyondTheirBounds();
        Checks.end();
    }

    private static void palettes(String what, TapestryRuns loom, String... due) {
        for (int many = 2; many <= 6; many++) {
            loom.setColours(many);
            Checks.same(what + ", palette of " + many, Patterns.palette(loom), due[many - 2]);
        }
    }

    /** The bound of "as long as there are fewer boxes than colours", from 2 to 6. */
    private static void asManyAsToldIfThereAreShades() {
        palettes("slope", Patterns.slope(), "50 170 -1 -1 -1 -1", "20 80 170 -1 -1 -1", "20 80 140 200 -1 -1",
                "6 33 80 140 200 -1", "6 33 66 93 140 200");
    }

    private static void oneShadeIsOneColour() {
        for (int shade : Bounds.within(0, 255)) {
            String due = shade + " -1 -1 -1 -1 -1";
            palettes("one shade", Patterns.plain(shade), due, due, due, due, due);
        }
    }

    /** The bound of "and some box has more than one shade": no box has it any more. */
    private static void noBoxOfOneShadeIsSplit() {
        palettes("two shades", Patterns.ofTwo(48, 10, 20),
                "10 20 -1 -1 -1 -1", "10 20 -1 -1 -1 -1", "10 20 -1 -1 -1 -1", "10 20 -1 -1 -1 -1", "10 20 -1 -1 -1 -1");
        palettes("three shades", Patterns.ofRows(0, 0, 0, 0, 100, 100, 200, 200),
                "0 150 -1 -1 -1 -1", "0 100 200 -1 -1 -1", "0 100 200 -1 -1 -1", "0 100 200 -1 -1 -1", "0 100 200 -1 -1 -1");
        palettes("dark row", Patterns.darkRow(),
                "98 128 -1 -1 -1 -1", "69 128 128 -1 -1 -1", "10 128 128 128 -1 -1", "10 128 128 128 -1 -1", "10 128 128 128 -1 -1");
        Checks.same("five boxes of one shade each", Patterns.ofTwo(6, 0, 96).would(6, 0), 5);
        Checks.same("six, one of them with two shades", Patterns.ofTwo(5, 0, 96).would(6, 0), 6);
    }

    /** One cell of 96 has another shade, by 1: the box with it is split again and again, to 48, 24, 12, 6 and 3 cells. */
    private static void aDifferenceOfOneIsEnough() {
        palettes("one of 129", Patterns.ofTwo(1, 129, 128), "128 128 -1 -1 -1 -1", "128 128 128 -1 -1 -1",
                "128 128 128 128 -1 -1", "128 128 128 128 128 -1", "128 128 128 128 128 128");
        palettes("one of 127", Patterns.ofTwo(1, 127, 128), "127 128 -1 -1 -1 -1", "127 128 128 -1 -1 -1",
                "127 128 128 128 -1 -1", "127 128 128 128 128 -1", "127 128 128 128 128 128");
    }

    /** With three colours the second split is that of the wider half. */
    private static void theGreatestDifferenceIsSplit() {
        Checks.same("the first is wider by 1", Patterns.palette(Patterns.ofRows(0, 0, 101, 101, 155, 155, 255, 255)), "0 101 205 -1 -1 -1");
        Checks.same("the second is wider by 1", Patterns.palette(Patterns.ofRows(1, 1, 101, 101, 154, 154, 255, 255)), "51 154 255 -1 -1 -1");
        Checks.same("the second is wider by far", Patterns.palette(Patterns.ofRows(1, 1, 2, 2, 154, 154, 255, 255)), "1 154 255 -1 -1 -1");
    }

    private static void theFirstOfSeveralIsSplit() {
        Checks.same("both are as wide", Patterns.palette(Patterns.ofRows(0, 0, 100, 100, 155, 155, 255, 255)), "0 100 205 -1 -1 -1");
        palettes("three are as wide", Patterns.ofRows(0, 0, 0, 50, 60, 110, 120, 170), "12 115 -1 -1 -1 -1",
                "12 85 145 -1 -1 -1", "0 25 85 145 -1 -1", "0 0 50 85 145 -1", "0 0 50 60 110 145");
    }

    /** The first box is narrow; of the two behind it the first one is split, unless the second is wider. */
    private static void theFirstOfSeveralLaterOnesIsSplit() {
        String three = "2 45 105 -1 -1 -1";
        TapestryRuns loom = Patterns.ofRows(0, 0, 0, 10, 20, 70, 80, 130);
        Checks.same("three", Patterns.palette(loom), three);
        loom.setColours(4);
        Checks.same("as wide", Patterns.palette(loom), "2 20 70 105 -1 -1");
        loom.row(7, 129, 0);
        Checks.same("the last is narrower by 1", Patterns.palette(loom), "2 20 70 104 -1 -1");
        loom.row(7, 131, 0);
        Checks.same("the last is wider by 1", Patterns.palette(loom), "2 45 80 131 -1 -1");
    }

    /** 48 cells are the half, whatever shades meet there. */
    private static void splitByTheLength() {
        Checks.same("47 of 0", paletteOfTwo(47), "2 100 -1 -1 -1 -1");
        Checks.same("48 of 0", paletteOfTwo(48), "0 100 -1 -1 -1 -1");
        Checks.same("49 of 0", paletteOfTwo(49), "0 97 -1 -1 -1 -1");
        Checks.same("1 of 0", paletteOfTwo(1), "97 100 -1 -1 -1 -1");
        Checks.same("95 of 0", paletteOfTwo(95), "0 2 -1 -1 -1 -1");
    }

    private static String paletteOfTwo(int many) {
        TapestryRuns loom = Patterns.ofTwo(many, 0, 100);
        loom.setColours(2);
        return Patterns.palette(loom);
    }

    private static void twoColoursOfOneShade() {
        TapestryRuns loom = Patterns.darkRow();
        Checks.same("palette", Patterns.palette(loom), "69 128 128 -1 -1 -1");
        Checks.same("both are colours", loom.would(3, 0), 3);
        loom.weave();
        Checks.same("shades of the cloth", Patterns.threads(loom, 2), "69 128 128 -1 -1 -1");
        Checks.same("woven in the first of them", Patterns.threads(loom, 1), "12 84 0 0 0 0");
    }

    private static void shadesAreSorted() {
        Checks.same("rows the other way", Patterns.palette(Patterns.ofRows(255, 255, 155, 155, 100, 100, 0, 0)), "0 100 205 -1 -1 -1");
        Checks.same("rows in no order", Patterns.palette(Patterns.ofRows(155, 0, 255, 100, 0, 255, 100, 155)), "0 100 205 -1 -1 -1");
        TapestryRuns back = new TapestryRuns();
        for (int y = 0; y < 8; y++) {
            back.row(y, 220, -20);
        }
        Checks.same("slope the other way", Patterns.palette(back), "20 80 170 -1 -1 -1");
    }

    /** 47 cells of 10 and one of 57 are 527, less by 1 than 48 * 11. */
    private static void theMeanIsCut() {
        Checks.same("one less than whole", meanWith(57), 10);
        Checks.same("whole", meanWith(58), 11);
        Checks.same("one more than whole", meanWith(59), 11);
        TapestryRuns bright = Patterns.ofTwo(1, 254, 255);
        bright.setColours(2);
        Checks.same("254 and 47 of 255", Patterns.palette(bright), "254 255 -1 -1 -1 -1");
    }

    private static int meanWith(int shade) {
        TapestryRuns loom = Patterns.ofTwo(48, 10, 200);
        loom.set(0, 0, shade);
        loom.setColours(2);
        Checks.same("the other one", loom.palette(1), 200);
        return loom.palette(0);
    }

    private static void paletteIsOfPatternAndLoomNow() {
        TapestryRuns loom = Patterns.plain(40);
        loom.weave();
        loom.row(0, 10, 0);
        Checks.same("after weaving", Patterns.palette(loom), "25 40 40 -1 -1 -1");
        loom.setColours(2);
        Checks.same("with fewer colours", Patterns.palette(loom), "32 40 -1 -1 -1 -1");
        Checks.same("the kept one", Patterns.threads(loom, 2), "40 -1 -1 -1 -1 -1");
    }

    private static void coloursBeyondTheirBounds() {
        for (int colour : Bounds.beyond(0, 5)) {
            Refusals.outOfBounds("palette(" + colour + ")", loom -> loom.palette(colour));
        }
        for (int colour : Bounds.within(0, 5)) {
            Refusals.changesNothing("palette(" + colour + ")", loom -> loom.palette(colour));
        }
    }
}
