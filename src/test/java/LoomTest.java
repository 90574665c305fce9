/** Promises 5 (setColours), 6 (setCarry), 7 (setTurning), 8 (setPressing) and 9 (wind). */
public final class LoomTest {
    public static void main(String[] args) {
        coloursFromNowOn();
        coloursBeyondTheirBounds();
        carryFromNowOn();
        carryBeyondItsBounds();
        turningFromNowOn();
        pressingFromNowOn();
        windingAtItsBounds();
        windingUpToTheMost();
        windingBeyondItsBounds();
        Checks.end();
    }

    private static void coloursFromNowOn() {
        TapestryRuns loom = Patterns.slope();
        int before = 3;
        for (int many : new int[] {2, 3, 4, 5, 6, 2, 2}) {
            Checks.same("setColours(" + many + ")", loom.setColours(many), before);
            Checks.same("count(0)", loom.count(0), many);
            Checks.yes("so many colours", loom.palette(many - 1) >= 0 && (many == 6 || loom.palette(many) == -1));
            before = many;
        }
        Checks.same("palette", Patterns.palette(loom), "50 170 -1 -1 -1 -1");
    }

    private static void coloursBeyondTheirBounds() {
        for (int many : Bounds.beyond(2, 6)) {
            Refusals.illegal("setColours(" + many + ")", loom -> loom.setColours(many));
        }
        Refusals.illegal("setColours(0)", loom -> loom.setColours(0));
    }

    private static void carryFromNowOn() {
        TapestryRuns loom = new TapestryRuns();
        int before = 2;
        for (int way : new int[] {0, 1, 2, 2, 0}) {
            Checks.same("setCarry(" + way + ")", loom.setCarry(way), before);
            Checks.same("count(1)", loom.count(1), way);
            before = way;
        }
    }

    private static void carryBeyondItsBounds() {
        for (int way : Bounds.beyond(0, 2)) {
            Refusals.outOfBounds("setCarry(" + way + ")", loom -> loom.setCarry(way));
        }
    }

    private static void turningFromNowOn() {
        TapestryRuns loom = new TapestryRuns();
        Checks.yes("was not", !loom.setTurning(true));
        Checks.same("count(2)", loom.count(2), 1);
        Checks.yes("was", loom.setTurning(true));
        Checks.yes("was still", loom.setTurning(false));
        Checks.yes("was not any more", !loom.setTurning(false));
        Checks.same("count(2) then", loom.count(2), 0);
    }

    private static void pressingFromNowOn() {
        TapestryRuns loom = new TapestryRuns();
        loom.weave();
        Checks.yes("was not", !loom.setPressing(true));
        Checks.same("count(3)", loom.count(3), 1);
        Checks.same("the kept cloth is pressed", loom.count(7), 9);
        Checks.yes("was", loom.setPressing(true));
        Checks.yes("was still", loom.setPressing(false));
        Checks.same("count(3) then", loom.count(3), 0);
        Checks.same("the kept cloth is not", loom.count(7), 16);
        Checks.yes("was not any more", !loom.setPressing(false));
    }

    private static void windingAtItsBounds() {
        for (int colour : Bounds.within(0, 5)) {
            for (int thread : Bounds.within(1, 99)) {
                TapestryRuns loom = new TapestryRuns();
                Checks.same("wind(" + colour + ", " + thread + ")", loom.wind(colour, thread), 200 + thread);
                Checks.same("that spool", loom.thread(colour, 0), 200 + thread);
                Checks.same("all spools", loom.count(5), 1200 + thread);
            }
        }
    }

    private static TapestryRuns with(int thread) {
        TapestryRuns loom = new TapestryRuns();
        for (int time = 0; time < 8; time++) {
            loom.wind(5, 99);
        }
        if (thread > 992) {
            loom.wind(5, thread - 992);
        }
        return loom;
    }

    private static void windingUpToTheMost() {
        Checks.same("998", with(992).wind(5, 6), 998);
        Checks.same("999", with(992).wind(5, 7), 999);
        Checks.same("1000, what is more is lost", with(992).wind(5, 8), 999);
        Checks.same("998 and 1", with(998).wind(5, 1), 999);
        Checks.same("998 and 2", with(998).wind(5, 2), 999);
        Checks.same("998 and 99", with(998).wind(5, 99), 999);
        TapestryRuns full = with(999);
        Checks.same("full and 1", full.wind(5, 1), 999);
        Checks.same("full and 99", full.wind(5, 99), 999);
        Checks.same("spools", Patterns.threads(full, 0), "200 200 200 200 200 999");
        Checks.same("count(5)", full.count(5), 1999);
        Checks.same("wind(0, 99) then", full.wind(0, 99), 299);
    }

    private static void windingBeyondItsBounds() {
        for (int colour : Bounds.beyond(0, 5)) {
            Refusals.outOfBounds("wind(" + colour + ", 1)", loom -> loom.wind(colour, 1));
            Refusals.outOfBounds("wind(" + colour + ", 0)", loom -> loom.wind(colour, 0));
            Refusals.outOfBounds("wind(" + colour + ", 100)", loom -> loom.wind(colour, 100));
        }
        for (int thread : Bounds.beyond(1, 99)) {
            Refusals.illegal("wind(0, " + thread + ")", loom -> loom.wind(0, thread));
            Refusals.illegal(() -> with(999), "wind(5, " + thread + ") onto a full spool", loom -> loom.wind(5, thread));
        }
        Refusals.illegal("wind(5, -1)", loom -> loom.wind(5, -1));
    }
}
