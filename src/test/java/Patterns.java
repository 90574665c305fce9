/** Looms with patterns whose cloths can be worked out by hand. */
final class Patterns {
    private Patterns() {
    }

    static TapestryRuns plain(int shade) {
        return ofRows(shade, shade, shade, shade, shade, shade, shade, shade);
    }

    static TapestryRuns ofRows(int... shades) {
        TapestryRuns loom = new TapestryRuns();
        for (int y = 0; y < 8; y++) {
            loom.row(y, shades[y], 0);
        }
        return loom;
    }

    /** 12 cells of 10 and 84 of 128, two colours, errors not carried. */
    static TapestryRuns darkRow() {
        TapestryRuns loom = ofRows(10, 128, 128, 128, 128, 128, 128, 128);
        loom.setCarry(0);
        return loom;
    }

    /** With two colours they are 50 and 150, and the cells of 100 lie between. */
    static TapestryRuns between() {
        TapestryRuns loom = ofRows(0, 0, 100, 100, 100, 100, 200, 200);
        loom.setColours(2);
        loom.setCarry(1);
        return loom;
    }

    /** Each row has the shades 0, 20, .. 220; errors are not carried. */
    static TapestryRuns slope() {
        TapestryRuns loom = new TapestryRuns();
        for (int y = 0; y < 8; y++) {
            loom.row(y, 0, 20);
        }
        loom.setCarry(0);
        return loom;
    }

    static String colours(TapestryRuns loom, int y) {
        StringBuilder text = new StringBuilder();
        for (int x = 0; x < 12; x++) {
            text.append(loom.cell(x, y));
        }
        return text.toString();
    }

    static String shades(TapestryRuns loom, int y) {
        StringBuilder text = new StringBuilder();
        for (int x = 0; x < 12; x++) {
            text.append(x == 0 ? "" : " ").append(loom.shade(x, y));
        }
        return text.toString();
    }

    static String palette(TapestryRuns loom) {
        StringBuilder text = new StringBuilder();
        for (int colour = 0; colour < 6; colour++) {
            text.append(colour == 0 ? "" : " ").append(loom.palette(colour));
        }
        return text.toString();
    }

    static String threads(TapestryRuns loom, int what) {
        StringBuilder text = new StringBuilder();
        for (int colour = 0; colour < 6; colour++) {
            text.append(colour == 0 ? "" : " ").append(loom.thread(colour, what));
        }
        return text.toString();
    }

    static String counts(TapestryRuns loom) {
        StringBuilder text = new StringBuilder();
        for (int what = 0; what < 8; what++) {
            text.append(what == 0 ? "" : " ").append(loom.count(what));
        }
        return text.toString();
    }
}
