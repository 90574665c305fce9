/** Promises 18 (would) and 19 (advise). */
public final class WouldTest {
    private static final int[] SLOPE_OFF = {2880, 2000, 1280, 1168, 1056};
    private static final int[] SLOPE_KNOTS = {16, 24, 32, 40, 48};

    public static void main(String[] args) {
        wouldOfASlope();
        wouldOfFewerColours();
        wouldAsTheLoomIs();
        wouldIsWhatIsWovenThen();
        wouldWithoutThread();
        wouldChangesNothing();
        wouldBeyondItsBounds();
        adviseOfASlope();
        adviseOfPressedRows();
        adviseCarriedAsTheLoomIs();
        adviseTurningAsTheLoomIs();
        adviseIsByWhatWouldBe();
        adviseTheLeastOff();
        adviseTheFewestOfSeveral();
        adviseNone();
        adviseUpToAllCells();
        adviseWithoutThread();
        adviseChangesNothing();
        adviseBeyondItsBounds();
        Checks.end();
    }

    private static void wouldOfASlope() {
        TapestryRuns loom = Patterns.slope();
        for (int many = 2; many <= 6; many++) {
            Checks.same("colours of " + many, loom.would(many, 0), many);
            Checks.same("off of " + many, loom.would(many, 1), SLOPE_OFF[many - 2]);
            Checks.same("knots of " + many, loom.would(many, 2), SLOPE_KNOTS[many - 2]);
        }
    }

    private static void wouldOfFewerColours() {
        TapestryRuns loom = Patterns.darkRow();
        Checks.same("colours of 3", loom.would(3, 0), 3);
        Checks.same("colours of 4", loom.would(4, 0), 4);
        Checks.same("colours of 5", loom.would(5, 0), 4);
        Checks.same("colours of 6", loom.would(6, 0), 4);
        Checks.same("off of 6", loom.would(6, 1), 0);
        Checks.same("off of 3", loom.would(3, 1), 12 * 59);
        Checks.same("off of 2", loom.would(2, 1), 12 * 88);
        Checks.same("of one shade", new TapestryRuns().would(6, 0), 1);
    }

    private static void wouldAsTheLoomIs() {
        TapestryRuns loom = Patterns.between();
        Checks.same("ahead", loom.would(2, 2), 56);
        loom.setPressing(true);
        Checks.same("pressed", loom.would(2, 2), 21);
        loom.setTurning(true);
        Checks.same("turning", loom.would(2, 2), 54);
        loom.setPressing(false);
        loom.setCarry(0);
        Checks.same("not carried", loom.would(2, 2), 16);
        loom.weave();
        loom.setColours(6);
        Checks.same("what is kept stays", loom.count(7), 16);
        Checks.same("of the pattern now", loom.would(2, 1), 4800);
    }

    /** Rows of many shades, two of them the same, on a loom that is set by its number from 0 to 11. */
    private static TapestryRuns uneven(int setting) {
        TapestryRuns loom = new TapestryRuns();
        for (int y = 0; y < 8; y++) {
            loom.row(y, 20 + 30 * y, 14 - 4 * y);
        }
        loom.like(4, 3);
        loom.setCarry(setting % 3);
        loom.setTurning(setting / 3 % 2 == 1);
        loom.setPressing(setting >= 6);
        return loom;
    }

    private static void wouldIsWhatIsWovenThen() {
        for (int setting = 0; setting < 12; setting++) {
            for (int many = 2; many <= 6; many++) {
                TapestryRuns loom = uneven(setting);
                String told = loom.would(many, 0) + " " + loom.would(many, 1) + " " + loom.would(many, 2);
                loom.setColours(many);
                int knots = loom.weave();
                int colours = 0;
                for (int colour = 0; colour < 6; colour++) {
                    colours += loom.thread(colour, 2) < 0 ? 0 : 1;
                }
                Checks.same("would(" + many + ", 0 to 2), loom " + setting, told,
                        colours + " " + loom.count(6) + " " + knots);
            }
        }
    }

    private static TapestryRuns withoutThread() {
        TapestryRuns loom = new TapestryRuns();
        loom.weave();
        loom.weave();
        return loom;
    }

    private static void wouldWithoutThread() {
        Refusals.wrongState(WouldTest::withoutThread, "weave", loom -> loom.weave());
        TapestryRuns loom = withoutThread();
        Checks.same("would(2, 0)", loom.would(2, 0), 1);
        Checks.same("would(2, 1)", loom.would(2, 1), 0);
        Checks.same("would(2, 2)", loom.would(2, 2), 16);
        Checks.same("thread stays", loom.thread(0, 0), 8);
    }

    private static void wouldChangesNothing() {
        for (int many = 2; many <= 6; many++) {
            for (int what = 0; what <= 2; what++) {
                int colours = many;
                int asked = what;
                Refusals.changesNothing("would(" + many + ", " + what + ")", loom -> loom.would(colours, asked));
            }
        }
    }

    private static void wouldBeyondItsBounds() {
        for (int many : Bounds.beyond(2, 6)) {
            Refusals.illegal("would(" + many + ", 0)", loom -> loom.would(many, 0));
            Refusals.illegal("would(" + many + ", -1)", loom -> loom.would(many, -1));
            Refusals.illegal("would(" + many + ", 3)", loom -> loom.would(many, 3));
        }
        for (int what : Bounds.beyond(0, 2)) {
            Refusals.outOfBounds("would(2, " + what + ")", loom -> loom.would(2, what));
            Refusals.outOfBounds("would(6, " + what + ")", loom -> loom.would(6, what));
        }
    }

    /** Each number of knots: one less than some cloth has, as many, and one more are among them. */
    private static void adviseOfASlope() {
        TapestryRuns loom = Patterns.slope();
        loom.weave();
        for (int knots = 0; knots <= 96; knots++) {
            int due = knots < 16 ? -1 : Math.min(6, knots / 8);
            Checks.same("advise(" + knots + ")", loom.advise(knots), due);
        }
    }

    private static void adviseOfPressedRows() {
        TapestryRuns loom = Patterns.slope();
        loom.setPressing(true);
        Checks.same("pressed, 14", loom.advise(14), 6);
        Checks.same("pressed, 13", loom.advise(13), 6);
        Checks.same("pressed, 12", loom.advise(12), 5);
        Checks.same("pressed, 9", loom.advise(9), 2);
        Checks.same("pressed, 8", loom.advise(8), -1);
    }

    /**
     * All cells are of 128, but two in row 1 of 126. Up to five colours are 127 and 128 (the first mean is cut), six are 126
     * and 128. An error of -1 lets the cell ahead want 127: by way 1 row 1 has 3 knots, by way 0, or with six colours, 5.
     */
    private static TapestryRuns twoDarkCells(int way, boolean turning) {
        TapestryRuns loom = new TapestryRuns();
        loom.set(1, 1, 126);
        loom.set(3, 1, 126);
        loom.setCarry(way);
        loom.setTurning(turning);
        return loom;
    }

    private static void advised(TapestryRuns loom, String what, int knots, int due) {
        Checks.same(what + ", advise(" + knots + ")", loom.advise(knots), due);
    }

    private static void adviseCarriedAsTheLoomIs() {
        TapestryRuns notAtAll = twoDarkCells(0, false);
        advised(notAtAll, "way 0", 18, -1);
        advised(notAtAll, "way 0", 19, 6);
        TapestryRuns ahead = twoDarkCells(1, false);
        advised(ahead, "way 1", 16, -1);
        advised(ahead, "way 1", 17, 2);
        advised(ahead, "way 1", 18, 2);
        advised(ahead, "way 1", 19, 6);
        ahead.setPressing(true);
        advised(ahead, "way 1, pressed", 11, -1);
        advised(ahead, "way 1, pressed", 12, 2);
        advised(ahead, "way 1, pressed", 14, 6);
        ahead.setCarry(0);
        advised(ahead, "way 0 from now on, pressed", 13, -1);
        advised(ahead, "way 0 from now on, pressed", 14, 6);
    }

    /** Row 1 is turned: the cells 2 and 0 want 127 now, so that it has 2 knots. */
    private static void adviseTurningAsTheLoomIs() {
        TapestryRuns turning = twoDarkCells(1, true);
        advised(turning, "turning", 15, -1);
        advised(turning, "turning", 16, 2);
        advised(turning, "turning", 18, 2);
        advised(turning, "turning", 19, 6);
        turning.weave();
        Checks.same("row 1", Patterns.colours(turning, 1), "000011111111");
        turning.setTurning(false);
        advised(turning, "not any more", 16, -1);
        advised(turning, "not any more", 17, 2);
    }

    private static void adviseIsByWhatWouldBe() {
        for (int setting = 0; setting < 12; setting++) {
            TapestryRuns loom = uneven(setting);
            int[] off = new int[7];
            int[] knots = new int[7];
            for (int many = 2; many <= 6; many++) {
                off[many] = loom.would(many, 1);
                knots[many] = loom.would(many, 2);
            }
            for (int most = 0; most <= 96; most++) {
                advised(loom, "loom " + setting, most, bestOf(off, knots, most));
            }
        }
    }

    private static int bestOf(int[] off, int[] knots, int most) {
        int best = -1;
        for (int many = 6; many >= 2; many--) {
            if (knots[many] <= most && (best < 0 || off[many] <= off[best])) {
                best = many;
            }
        }
        return best;
    }

    /** Four colours are 15, 20, 160 and 170; five are 15, 20, 160, 165 and 175; six are 10, 20, 20, 160, 165 and 175. */
    private static void adviseTheLeastOff() {
        TapestryRuns loom = Patterns.ofRows(10, 20, 20, 160, 160, 170, 170, 180);
        loom.setCarry(1);
        Checks.same("off of 4", loom.would(4, 1), 12 * 5 + 12 * 10);
        Checks.same("off of 5", loom.would(5, 1), 12 * 5 + 24 * 5 + 12 * 5);
        Checks.same("off of 6", loom.would(6, 1), 24 * 5 + 12 * 5);
        Checks.same("5 is off by more than 4, 6 is not off by less", loom.advise(96), 4);
        loom.set(11, 5, 171);
        Checks.same("off of 4 then", loom.would(4, 1), 180 + 1);
        Checks.same("off of 6 then", loom.would(6, 1), 180 - 1);
        Checks.same("6 is off by less", loom.advise(96), 6);
        loom.set(11, 5, 170);
        loom.set(11, 0, 11);
        Checks.same("off of 4 at last", loom.would(4, 1), 180 - 1);
        Checks.same("off of 6 at last", loom.would(6, 1), 180 + 1);
        Checks.same("6 is off by more", loom.advise(96), 4);
        Checks.same("not the told number of colours", Patterns.slope().advise(96), 6);
    }

    private static void adviseTheFewestOfSeveral() {
        TapestryRuns loom = Patterns.darkRow();
        Checks.same("4, 5 and 6 are off by 0", loom.advise(96), 4);
        Checks.same("16 are enough", loom.advise(16), 4);
        Checks.same("of one shade", new TapestryRuns().advise(96), 2);
    }

    private static void adviseNone() {
        TapestryRuns loom = new TapestryRuns();
        Checks.same("advise(0)", loom.advise(0), -1);
        Checks.same("advise(1)", loom.advise(1), -1);
        Checks.same("advise(15)", loom.advise(15), -1);
        Checks.same("advise(16)", loom.advise(16), 2);
        Checks.same("advise(17)", loom.advise(17), 2);
        loom.setPressing(true);
        Checks.same("pressed, advise(8)", loom.advise(8), -1);
        Checks.same("pressed, advise(9)", loom.advise(9), 2);
    }

    private static void adviseUpToAllCells() {
        TapestryRuns loom = Patterns.chequered();
        Checks.same("knots", loom.would(6, 2), 96);
        Checks.same("advise(94)", loom.advise(94), -1);
        Checks.same("advise(95)", loom.advise(95), -1);
        Checks.same("advise(96)", loom.advise(96), 2);
    }

    private static void adviseWithoutThread() {
        TapestryRuns loom = withoutThread();
        Checks.same("advise(16)", loom.advise(16), 2);
        Checks.same("advise(15)", loom.advise(15), -1);
    }

    private static void adviseChangesNothing() {
        for (int knots : Bounds.within(0, 96)) {
            Refusals.changesNothing("advise(" + knots + ")", loom -> loom.advise(knots));
        }
    }

    private static void adviseBeyondItsBounds() {
        for (int knots : Bounds.beyond(0, 96)) {
            Refusals.illegal("advise(" + knots + ")", loom -> loom.advise(knots));
        }
    }
}
