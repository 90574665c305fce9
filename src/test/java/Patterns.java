/** Looms with patterns whose cloths can be worked out by hand. */
final class Patterns {
    private Patterns() {
    }

    static TapestryRuns plain(int shade) {
        return ofRows(shade, shade, shade, shade, shade, shade, shade, shade);
    }

    static TapestryRuns ofRows(int... shades) {
        TapestryRuns loom = new TapestryRuns();
        for (int y = 0; y < 8; y++) {
            loom.row(y, shades[y], 0);
        }
        return loom;
    }

    /** Two shades, the first so many cells of one and then all others of the other; errors are not carried. */
    static TapestryRuns ofTwo(int many, int first, int other) {
        TapestryRuns loom = plain(other);
        loom.setCarry(0);
        int rows = many / 12;
        for (int y = 0; y < rows; y++) {
            loom.row(y, first, 0);
        }
        for (int x = 0; x < many % 12; x++) {
            loom.set(x, rows, first);
        }
        return loom;
    }

    /** 12 cells of 10 and 84 of 128, two colours, errors not carried. */
    static TapestryRuns darkRow() {
        return ofTwo(12, 10, 128);
    }

    /** With two colours they are 50 and 150, and the cells of 100 lie between. */
    static TapestryRuns between() {
        TapestryRuns loom = ofRows(0, 0, 100, 100, 100, 100, 200, 200);
        loom.setColours(2);
        loom.setCarry(1);
        return loom;
    }

    /** Each row has the shades 0, 20, .. 220; errors are not carried. */
    static TapestryRuns slope() {
        TapestryRuns loom = new TapestryRuns();
        for (int y = 0; y < 8; y++) {
            loom.row(y, 0, 20);
        }
        loom.setCarry(0);
        return loom;
    }

    /** With two colours each cell has another one than those beside, above and below it. */
    static TapestryRuns chequered() {
        TapestryRuns loom = plain(0);
        loom.setColours(2);
        loom.setCarry(0);
        for (int x = 1; x < 12; x += 2) {
            loom.set(x, 0, 200);
        }
        for (int x = 0; x < 12; x += 2) {
            loom.set(x, 1, 200);
        }
        for (int y = 2; y < 8; y++) {
            loom.like(y, y - 2);
        }
        return loom;
    }

    static TapestryRuns woven() {
        TapestryRuns loom = between();
        loom.weave();
        return loom;
    }

    /** Nothing in it is as it is at first, and pattern and loom are not those of its cloth. */
    static TapestryRuns changed() {
        TapestryRuns loom = slope();
        loom.setTurning(true);
        loom.setPressing(true);
        loom.setCarry(2);
        loom.setColours(4);
        loom.weave();
        loom.row(2, 250, -9);
        loom.like(5, 2);
        loom.set(11, 7, 1);
        loom.setColours(6);
        loom.setCarry(1);
        for (int colour = 0; colour < 6; colour++) {
            loom.wind(colour, 1 + colour);
        }
        return loom;
    }

    static String colours(TapestryRuns loom, int y) {
        StringBuilder text = new StringBuilder();
        for (int x = 0; x < 12; x++) {
            text.append(loom.cell(x, y));
        }
        return text.toString();
    }

    static String shades(TapestryRuns loom, int y) {
        StringBuilder text = new StringBuilder();
        for (int x = 0; x < 12; x++) {
            text.append(x == 0 ? "" : " ").append(loom.shade(x, y));
        }
        return text.toString();
    }

    static String palette(TapestryRuns loom) {
        StringBuilder text = new StringBuilder();
        for (int colour = 0; colour < 6; colour++) {
            text.append(colour == 0 ? "" : " ").append(loom.palette(colour));
        }
        return text.toString();
    }

    static String threads(TapestryRuns loom, int what) {
        StringBuilder text = new StringBuilder();
        for (int colour = 0; colour < 6; colour++) {
            text.append(colour == 0 ? "" : " ").append(loom.thread(colour, what));
        }
        return text.toString();
    }

    static String counts(TapestryRuns loom) {
        StringBuilder text = new StringBuilder();
        for (int what = 0; what < 8; what++) {
            text.append(what == 0 ? "" : " ").append(loom.count(what));
        }
        return text.toString();
    }

    /** The lengths of the runs of a row. */
    static String lengths(TapestryRuns loom, int y) {
        StringBuilder text = new StringBuilder();
        for (int place = 0; place < loom.knots(y); place++) {
            text.append(place == 0 ? "" : " ").append(loom.run(y, place, 1));
        }
        return text.toString();
    }
}
