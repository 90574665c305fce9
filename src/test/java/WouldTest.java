/** Promises 18 (would) and 19 (advise). */
public final class WouldTest {
    private static final int[] SLOPE_OFF = {2880, 2000, 1280, 1168, 1056};
    private static final int[] SLOPE_KNOTS = {16, 24, 32, 40, 48};

    public static void main(String[] args) {
        wouldOfASlope();
        wouldOfFewerColours();
        wouldAsTheLoomIs();
        wouldWithoutThread();
        wouldRefuses();
        adviseOfASlope();
        adviseTheFewest();
        adviseNone();
        adviseRefuses();
        Checks.end();
    }

    private static void wouldOfASlope() {
        TapestryRuns loom = Patterns.slope();
        long before = loom.digest();
        for (int many = 2; many <= 6; many++) {
            Checks.same("colours of " + many, loom.would(many, 0), many);
            Checks.same("off of " + many, loom.would(many, 1), SLOPE_OFF[many - 2]);
            Checks.same("knots of " + many, loom.would(many, 2), SLOPE_KNOTS[many - 2]);
        }
        Checks.same("nothing is changed", loom.digest(), before);
    }

    private static void wouldOfFewerColours() {
        TapestryRuns loom = Patterns.darkRow();
        Checks.same("colours of 4", loom.would(4, 0), 4);
        Checks.same("colours of 6", loom.would(6, 0), 4);
        Checks.same("off of 6", loom.would(6, 1), 0);
        Checks.same("off of 2", loom.would(2, 1), 12 * 88);
    }

    private static void wouldAsTheLoomIs() {
        TapestryRuns loom = Patterns.between();
        Checks.same("ahead", loom.would(2, 2), 56);
        loom.setPressing(true);
        Checks.same("pressed", loom.would(2, 2), 21);
        loom.setTurning(true);
        Checks.same("turning", loom.would(2, 2), 54);
        loom.setPressing(false);
        loom.setCarry(0);
        Checks.same("not carried", loom.would(2, 2), 16);
        loom.weave();
        loom.setColours(6);
        Checks.same("what is kept stays", loom.count(7), 16);
        Checks.same("of the pattern now", loom.would(2, 1), 4800);
    }

    private static void wouldWithoutThread() {
        TapestryRuns loom = new TapestryRuns();
        loom.weave();
        loom.weave();
        Checks.wrongState(loom, "weave", () -> loom.weave());
        Checks.same("would(2, 2)", loom.would(2, 2), 16);
        Checks.same("advise(16)", loom.advise(16), 2);
    }

    private static void wouldRefuses() {
        TapestryRuns loom = Patterns.slope();
        loom.weave();
        Checks.illegal(loom, "would(1, 0)", () -> loom.would(1, 0));
        Checks.illegal(loom, "would(7, 0)", () -> loom.would(7, 0));
        Checks.illegal(loom, "would(7, 3)", () -> loom.would(7, 3));
        Checks.outOfBounds(loom, "would(2, -1)", () -> loom.would(2, -1));
        Checks.outOfBounds(loom, "would(6, 3)", () -> loom.would(6, 3));
    }

    private static void adviseOfASlope() {
        TapestryRuns loom = Patterns.slope();
        loom.weave();
        long before = loom.digest();
        for (int knots = 0; knots <= 96; knots++) {
            int due = knots < 16 ? -1 : Math.min(6, knots / 8);
            Checks.same("advise(" + knots + ")", loom.advise(knots), due);
        }
        Checks.same("nothing is changed", loom.digest(), before);
        loom.setPressing(true);
        Checks.same("pressed, 13", loom.advise(13), 6);
        Checks.same("pressed, 12", loom.advise(12), 5);
        Checks.same("pressed, 9", loom.advise(9), 2);
        Checks.same("pressed, 8", loom.advise(8), -1);
    }

    private static void adviseTheFewest() {
        TapestryRuns loom = Patterns.darkRow();
        Checks.same("4, 5 and 6 are off by 0", loom.advise(96), 4);
        Checks.same("16 are enough", loom.advise(16), 4);
        Checks.same("of one shade", new TapestryRuns().advise(96), 2);
    }

    private static void adviseNone() {
        TapestryRuns loom = new TapestryRuns();
        Checks.same("advise(15)", loom.advise(15), -1);
        Checks.same("advise(0)", loom.advise(0), -1);
    }

    private static void adviseRefuses() {
        TapestryRuns loom = new TapestryRuns();
        Checks.illegal(loom, "advise(-1)", () -> loom.advise(-1));
        Checks.illegal(loom, "advise(97)", () -> loom.advise(97));
    }
}
