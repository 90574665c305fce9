/** The examples of README.md, group by group, with the answers that stand beside them there. */
public final class ReadmeTest {
    public static void main(String[] args) {
        TapestryRuns loom = new TapestryRuns();
        thePattern(loom);
        theLoom(loom);
        whatThereIs(loom);
        whatWouldBe(loom);
        whatIsRefused(loom);
        Checks.end();
    }

    private static void thePattern(TapestryRuns loom) {
        Checks.same("row(0, 0, 20)", loom.row(0, 0, 20), 220);
        for (int y = 1; y < 8; y++) {
            Checks.same("like(" + y + ", 0)", loom.like(y, 0), 12);
        }
        Checks.same("set(0, 7, 3)", loom.set(0, 7, 3), 0);
    }

    private static void theLoom(TapestryRuns loom) {
        Checks.same("setColours(3)", loom.setColours(3), 3);
        Checks.same("setCarry(0)", loom.setCarry(0), 2);
        Checks.yes("setTurning(true)", !loom.setTurning(true));
        Checks.yes("setPressing(false)", !loom.setPressing(false));
        Checks.same("wind(2, 50)", loom.wind(2, 50), 250);
        Checks.same("weave()", loom.weave(), 24);
    }

    private static void whatThereIs(TapestryRuns loom) {
        Checks.same("shade(0, 7)", loom.shade(0, 7), 3);
        Checks.same("palette(1)", loom.palette(1), 80);
        Checks.same("palette(3)", loom.palette(3), -1);
        Checks.same("cell(3, 0)", loom.cell(3, 0), 1);
        Checks.same("run(0, 1, 0)", loom.run(0, 1, 0), 1);
        Checks.same("run(0, 1, 1)", loom.run(0, 1, 1), 4);
        Checks.same("knots(1)", loom.knots(1), 3);
        Checks.same("thread(2, 0)", loom.thread(2, 0), 210);
        Checks.same("thread(2, 1)", loom.thread(2, 1), 40);
        Checks.same("thread(2, 2)", loom.thread(2, 2), 170);
        Checks.same("count(6)", loom.count(6), 1997);
        Checks.same("count(7)", loom.count(7), 24);
    }

    private static void whatWouldBe(TapestryRuns loom) {
        Checks.same("would(5, 0)", loom.would(5, 0), 5);
        Checks.same("would(5, 1)", loom.would(5, 1), 1165);
        Checks.same("would(5, 2)", loom.would(5, 2), 40);
        Checks.same("advise(24)", loom.advise(24), 3);
        Checks.same("advise(15)", loom.advise(15), -1);
        Checks.same("mean()", loom.mean(), 110.03125);
        TapestryRuns alike = new TapestryRuns();
        thePattern(alike);
        theLoom(alike);
        Checks.same("digest() of looms that are alike", loom.digest(), alike.digest());
    }

    private static void whatIsRefused(TapestryRuns loom) {
        long before = loom.digest();
        Checks.same("set(12, 0, 300)", Answers.to(asked -> asked.set(12, 0, 300), loom),
                IndexOutOfBoundsException.class.getName());
        Checks.same("set(0, 0, 300)", Answers.to(asked -> asked.set(0, 0, 300), loom),
                IllegalArgumentException.class.getName());
        Checks.same("digest()", loom.digest(), before);
    }
}
