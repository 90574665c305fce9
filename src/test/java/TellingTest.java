/** Promises 16 (thread), 17 (count) and 21 (digest). */
public final class TellingTest {
    public static void main(String[] args) {
        threadOfACloth();
        threadRefuses();
        countsOfALoom();
        countRefuses();
        digestWithoutACloth();
        digestWithACloth();
        Checks.end();
    }

    private static void threadOfACloth() {
        TapestryRuns loom = Patterns.slope();
        loom.weave();
        Checks.same("spools", Patterns.threads(loom, 0), "176 168 160 200 200 200");
        Checks.same("cells", Patterns.threads(loom, 1), "24 32 40 0 0 0");
        Checks.same("shades", Patterns.threads(loom, 2), "20 80 170 -1 -1 -1");
        loom.setColours(6);
        Checks.same("shades still", Patterns.threads(loom, 2), "20 80 170 -1 -1 -1");
        loom.weave();
        Checks.same("shades of six", Patterns.threads(loom, 2), "6 33 66 93 140 200");
        Checks.same("cells of six", Patterns.threads(loom, 1), "8 16 8 16 24 24");
        Checks.same("spools then", Patterns.threads(loom, 0), "168 152 152 184 176 176");
    }

    private static void threadRefuses() {
        TapestryRuns loom = new TapestryRuns();
        Checks.outOfBounds(loom, "thread(-1, 0)", () -> loom.thread(-1, 0));
        Checks.outOfBounds(loom, "thread(6, 0)", () -> loom.thread(6, 0));
        Checks.outOfBounds(loom, "thread(0, -1)", () -> loom.thread(0, -1));
        Checks.outOfBounds(loom, "thread(0, 3)", () -> loom.thread(0, 3));
    }

    private static void countsOfALoom() {
        TapestryRuns loom = Patterns.between();
        loom.wind(3, 7);
        Checks.same("without a cloth", Patterns.counts(loom), "2 1 0 0 0 1207 0 0");
        loom.weave();
        Checks.same("with one", Patterns.counts(loom), "2 1 0 0 1 1111 4800 56");
        loom.setPressing(true);
        loom.setCarry(0);
        loom.setTurning(true);
        loom.setColours(5);
        Checks.same("as the loom is now", Patterns.counts(loom), "5 0 1 1 1 1111 4800 21");
        loom.row(0, 77, 3);
        Checks.same("off as it was woven", loom.count(6), 4800);
        loom.weave();
        Checks.same("two woven", loom.count(4), 2);
        Checks.same("thread of two", loom.count(5), 1015);
    }

    private static void countRefuses() {
        TapestryRuns loom = new TapestryRuns();
        Checks.outOfBounds(loom, "count(-1)", () -> loom.count(-1));
        Checks.outOfBounds(loom, "count(8)", () -> loom.count(8));
        Checks.outOfBounds(loom, "count(MAX)", () -> loom.count(Integer.MAX_VALUE));
    }

    private static void digestWithoutACloth() {
        long d = folded(1549L, 3, 2, 0, 0, 0, 1200, 0, 0);
        d = foldedTimes(d, 96, 128);
        d = foldedTimes(d, 6, 200);
        Checks.same("digest", new TapestryRuns().digest(), d);
    }

    private static void digestWithACloth() {
        TapestryRuns loom = Patterns.darkRow();
        loom.set(11, 7, 128);
        loom.setTurning(true);
        loom.weave();
        long d = folded(1549L, 3, 0, 1, 0, 1, 1104, 12 * 59, 16);
        d = foldedTimes(d, 12, 10);
        d = foldedTimes(d, 84, 128);
        d = folded(d, 188, 116, 200, 200, 200, 200);
        d = folded(d, 69, 128, 128);
        d = foldedTimes(d, 12, 0);
        d = foldedTimes(d, 84, 1);
        Checks.same("digest", loom.digest(), d);
        Checks.same("digest again", loom.digest(), d);
    }

    private static long folded(long start, long... numbers) {
        long d = start;
        for (long number : numbers) {
            d = d * 31 + number;
        }
        return d;
    }

    private static long foldedTimes(long start, int times, long number) {
        long d = start;
        for (int time = 0; time < times; time++) {
            d = d * 31 + number;
        }
        return d;
    }
}
