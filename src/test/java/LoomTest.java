/** Promises 5 (setColours), 6 (setCarry), 7 (setTurning), 8 (setPressing) and 9 (wind). */
public final class LoomTest {
    public static void main(String[] args) {
        coloursFromNowOn();
        carryFromNowOn();
        turningFromNowOn();
        pressingFromNowOn();
        windingUpToTheMost();
        Checks.end();
    }

    private static void coloursFromNowOn() {
        TapestryRuns loom = Patterns.slope();
        Checks.same("setColours(6)", loom.setColours(6), 3);
        Checks.same("setColours(2)", loom.setColours(2), 6);
        Checks.same("setColours(2) again", loom.setColours(2), 2);
        Checks.same("palette", Patterns.palette(loom), "50 170 -1 -1 -1 -1");
        Checks.same("count(0)", loom.count(0), 2);
        Checks.illegal(loom, "setColours(1)", () -> loom.setColours(1));
        Checks.illegal(loom, "setColours(7)", () -> loom.setColours(7));
        Checks.illegal(loom, "setColours(MIN)", () -> loom.setColours(Integer.MIN_VALUE));
    }

    private static void carryFromNowOn() {
        TapestryRuns loom = new TapestryRuns();
        Checks.same("setCarry(0)", loom.setCarry(0), 2);
        Checks.same("setCarry(1)", loom.setCarry(1), 0);
        Checks.same("setCarry(2)", loom.setCarry(2), 1);
        Checks.same("count(1)", loom.count(1), 2);
        Checks.outOfBounds(loom, "setCarry(-1)", () -> loom.setCarry(-1));
        Checks.outOfBounds(loom, "setCarry(3)", () -> loom.setCarry(3));
    }

    private static void turningFromNowOn() {
        TapestryRuns loom = new TapestryRuns();
        Checks.yes("was not", !loom.setTurning(true));
        Checks.same("count(2)", loom.count(2), 1);
        Checks.yes("was", loom.setTurning(true));
        Checks.yes("was still", loom.setTurning(false));
        Checks.yes("was not any more", !loom.setTurning(false));
        Checks.same("count(2) then", loom.count(2), 0);
    }

    private static void pressingFromNowOn() {
        TapestryRuns loom = new TapestryRuns();
        loom.weave();
        Checks.yes("was not", !loom.setPressing(true));
        Checks.same("count(3)", loom.count(3), 1);
        Checks.same("the kept cloth is pressed", loom.count(7), 9);
        Checks.yes("was", loom.setPressing(false));
        Checks.same("count(3) then", loom.count(3), 0);
        Checks.same("the kept cloth is not", loom.count(7), 16);
        Checks.yes("was not any more", !loom.setPressing(false));
    }

    private static void windingUpToTheMost() {
        TapestryRuns loom = new TapestryRuns();
        Checks.same("wind(0, 1)", loom.wind(0, 1), 201);
        Checks.same("wind(5, 99)", loom.wind(5, 99), 299);
        Checks.same("spools", Patterns.threads(loom, 0), "201 200 200 200 200 299");
        for (int time = 0; time < 7; time++) {
            loom.wind(5, 99);
        }
        Checks.same("wind(5, 6)", loom.wind(5, 6), 998);
        Checks.same("wind(5, 1)", loom.wind(5, 1), 999);
        Checks.same("wind(5, 99), what is more is lost", loom.wind(5, 99), 999);
        Checks.same("thread(5, 0)", loom.thread(5, 0), 999);
        Checks.outOfBounds(loom, "wind(-1, 1)", () -> loom.wind(-1, 1));
        Checks.outOfBounds(loom, "wind(6, 1)", () -> loom.wind(6, 1));
        Checks.illegal(loom, "wind(0, 0)", () -> loom.wind(0, 0));
        Checks.illegal(loom, "wind(0, 100)", () -> loom.wind(0, 100));
        Checks.illegal(loom, "wind(0, MAX)", () -> loom.wind(0, Integer.MAX_VALUE));
        Checks.outOfBounds(loom, "wind(6, 0)", () -> loom.wind(6, 0));
    }
}
