/** Promise 1: a new object. */
public final class NewObjectTest {
    public static void main(String[] args) {
        patternHasOneShade();
        loomIsAsAtFirst();
        thereIsNoCloth();
        objectsAreApart();
        Checks.end();
    }

    private static void patternHasOneShade() {
        TapestryRuns loom = new TapestryRuns();
        for (int y = 0; y < 8; y++) {
            for (int x = 0; x < 12; x++) {
                Checks.same("shade of " + x + ", " + y, loom.shade(x, y), 128);
            }
        }
        Checks.same("palette", Patterns.palette(loom), "128 -1 -1 -1 -1 -1");
    }

    private static void loomIsAsAtFirst() {
        TapestryRuns loom = new TapestryRuns();
        Checks.same("counts", Patterns.counts(loom), "3 2 0 0 0 1200 0 0");
        Checks.same("spools", Patterns.threads(loom, 0), "200 200 200 200 200 200");
        Checks.same("colours before", loom.setColours(4), 3);
        Checks.same("carry before", loom.setCarry(1), 2);
        Checks.yes("not turning", !loom.setTurning(true));
        Checks.yes("not pressing", !loom.setPressing(true));
    }

    private static void thereIsNoCloth() {
        TapestryRuns loom = new TapestryRuns();
        Checks.same("cells of no cloth", Patterns.threads(loom, 1), "0 0 0 0 0 0");
        Checks.same("shades of no cloth", Patterns.threads(loom, 2), "-1 -1 -1 -1 -1 -1");
        Checks.same("off of no cloth", loom.count(6), 0);
        Checks.same("knots of no cloth", loom.count(7), 0);
        Refusals.wrongState(TapestryRuns::new, "cell", asked -> asked.cell(0, 0));
        Refusals.wrongState(TapestryRuns::new, "run", asked -> asked.run(0, 0, 0));
        Refusals.wrongState(TapestryRuns::new, "knots", asked -> asked.knots(0));
    }

    private static void objectsAreApart() {
        TapestryRuns one = new TapestryRuns();
        TapestryRuns other = new TapestryRuns();
        one.set(0, 0, 5);
        one.setColours(6);
        one.wind(2, 9);
        one.weave();
        Checks.same("what the other answers", Answers.of(other), Answers.of(new TapestryRuns()));
    }
}
