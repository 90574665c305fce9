import java.math.BigInteger;

/** Promises 16 (thread), 17 (count) and 21 (digest). */
public final class TellingTest {
    public static void main(String[] args) {
        threadWithoutACloth();
        threadOfACloth();
        threadOfFewerColours();
        threadBeyondItsBounds();
        countsWithoutACloth();
        countsOfALoom();
        countsOfAClothThatIsNotOff();
        countBeyondItsBounds();
        digestWithoutACloth();
        digestWithACloth();
        digestOfSixColours();
        digestTakesShadesInTheirOrder();
        digestWrapsAround();
        Checks.end();
    }

    private static void threadWithoutACloth() {
        TapestryRuns loom = Patterns.slope();
        loom.setColours(6);
        loom.wind(5, 3);
        Checks.same("spools", Patterns.threads(loom, 0), "200 200 200 200 200 203");
        Checks.same("cells", Patterns.threads(loom, 1), "0 0 0 0 0 0");
        Checks.same("shades", Patterns.threads(loom, 2), "-1 -1 -1 -1 -1 -1");
        loom.would(6, 1);
        loom.advise(96);
        Checks.same("cells, for nothing is woven", Patterns.threads(loom, 1), "0 0 0 0 0 0");
        Checks.same("shades, for nothing is woven", Patterns.threads(loom, 2), "-1 -1 -1 -1 -1 -1");
    }

    private static void threadOfACloth() {
        TapestryRuns loom = Patterns.slope();
        loom.weave();
        Checks.same("spools", Patterns.threads(loom, 0), "176 168 160 200 200 200");
        Checks.same("cells", Patterns.threads(loom, 1), "24 32 40 0 0 0");
        Checks.same("shades", Patterns.threads(loom, 2), "20 80 170 -1 -1 -1");
        loom.setColours(6);
        Checks.same("shades still", Patterns.threads(loom, 2), "20 80 170 -1 -1 -1");
        loom.weave();
        Checks.same("shades of six", Patterns.threads(loom, 2), "6 33 66 93 140 200");
        Checks.same("cells of six", Patterns.threads(loom, 1), "8 16 8 16 24 24");
        Checks.same("spools then", Patterns.threads(loom, 0), "168 152 152 184 176 176");
        loom.setColours(2);
        loom.weave();
        Checks.same("shades of two", Patterns.threads(loom, 2), "50 170 -1 -1 -1 -1");
        Checks.same("cells of two", Patterns.threads(loom, 1), "48 48 0 0 0 0");
    }

    /** The kept cloth has fewer colours than were told, and than the loom would have now. */
    private static void threadOfFewerColours() {
        TapestryRuns loom = Patterns.plain(0);
        loom.setColours(6);
        loom.weave();
        for (int y = 0; y < 8; y++) {
            loom.row(y, 0, 20);
        }
        Checks.same("the pattern's", loom.palette(5) >= 0 ? 1 : 0, 1);
        Checks.same("thread(0, 2)", loom.thread(0, 2), 0);
        Checks.same("thread(1, 2)", loom.thread(1, 2), -1);
        Checks.same("thread(5, 2)", loom.thread(5, 2), -1);
        Checks.same("thread(5, 1)", loom.thread(5, 1), 0);
    }

    private static void threadBeyondItsBounds() {
        for (int colour : Bounds.beyond(0, 5)) {
            for (int what = 0; what <= 3; what++) {
                int asked = what;
                Refusals.outOfBounds("thread(" + colour + ", " + what + ")", loom -> loom.thread(colour, asked));
            }
        }
        for (int what : Bounds.beyond(0, 2)) {
            Refusals.outOfBounds("thread(0, " + what + ")", loom -> loom.thread(0, what));
            Refusals.outOfBounds("thread(5, " + what + ")", loom -> loom.thread(5, what));
        }
        for (int what : Bounds.within(0, 2)) {
            Refusals.changesNothing("thread(5, " + what + ")", loom -> loom.thread(5, what));
        }
    }

    private static void countsWithoutACloth() {
        TapestryRuns loom = Patterns.between();
        loom.wind(3, 7);
        loom.setPressing(true);
        Checks.same("without a cloth", Patterns.counts(loom), "2 1 0 1 0 1207 0 0");
        loom.would(2, 1);
        loom.advise(96);
        Checks.same("off, for nothing is woven", loom.count(6), 0);
        Checks.same("knots, for nothing is woven", loom.count(7), 0);
    }

    private static void countsOfALoom() {
        TapestryRuns loom = Patterns.between();
        loom.wind(3, 7);
        loom.weave();
        Checks.same("with one", Patterns.counts(loom), "2 1 0 0 1 1111 4800 56");
        loom.setPressing(true);
        loom.setCarry(0);
        loom.setTurning(true);
        loom.setColours(5);
        Checks.same("as the loom is now", Patterns.counts(loom), "5 0 1 1 1 1111 4800 21");
        loom.row(0, 77, 3);
        Checks.same("off as it was woven", loom.count(6), 4800);
        loom.weave();
        Checks.same("two woven", loom.count(4), 2);
        Checks.same("thread of two", loom.count(5), 1015);
    }

    private static void countsOfAClothThatIsNotOff() {
        TapestryRuns loom = new TapestryRuns();
        loom.weave();
        Checks.same("counts", Patterns.counts(loom), "3 2 0 0 1 1104 0 16");
        loom.set(0, 0, 0);
        loom.setColours(2);
        loom.setCarry(0);
        loom.weave();
        Checks.same("one cell of 0 is woven in 125, all others in 128", loom.count(6), 125);
    }

    private static void countBeyondItsBounds() {
        for (int what : Bounds.beyond(0, 7)) {
            Refusals.outOfBounds("count(" + what + ")", loom -> loom.count(what));
        }
        for (int what = 0; what <= 7; what++) {
            int asked = what;
            Refusals.changesNothing("count(" + what + ")", loom -> loom.count(asked));
        }
    }

    private static void digestWithoutACloth() {
        long d = folded(1549L, 3, 2, 0, 0, 0, 1200, 0, 0);
        d = foldedTimes(d, 96, 128);
        d = foldedTimes(d, 6, 200);
        Checks.same("digest", new TapestryRuns().digest(), d);
        TapestryRuns asked = new TapestryRuns();
        asked.would(6, 2);
        Checks.same("digest, for nothing is woven", asked.digest(), d);
    }

    private static void digestWithACloth() {
        TapestryRuns loom = Patterns.darkRow();
        loom.setTurning(true);
        loom.weave();
        Checks.same("digest", loom.digest(), darkDigest(0, 16));
        Checks.same("digest again", loom.digest(), darkDigest(0, 16));
        loom.setPressing(true);
        Checks.same("digest, pressed", loom.digest(), darkDigest(1, 10));
    }

    private static long darkDigest(int pressing, int knots) {
        long d = folded(1549L, 3, 0, 1, pressing, 1, 1104, 12 * 59, knots);
        d = foldedTimes(d, 12, 10);
        d = foldedTimes(d, 84, 128);
        d = folded(d, 188, 116, 200, 200, 200, 200);
        d = folded(d, 69, 128, 128);
        d = foldedTimes(d, 12, 0);
        return foldedTimes(d, 84, 1);
    }

    /** The kept cloth stays with its six colours, and the pattern goes on. */
    private static void digestOfSixColours() {
        TapestryRuns loom = Patterns.slope();
        loom.setColours(6);
        loom.weave();
        for (int y = 0; y < 8; y++) {
            loom.row(y, y, 0);
        }
        long d = folded(1549L, 6, 0, 0, 0, 1, 1104, 1056, 48);
        for (int y = 0; y < 8; y++) {
            d = foldedTimes(d, 12, y);
        }
        d = folded(d, 192, 184, 192, 184, 176, 176);
        d = folded(d, 6, 33, 66, 93, 140, 200);
        for (int y = 0; y < 8; y++) {
            d = folded(d, 0, 1, 1, 2, 3, 3, 4, 4, 4, 5, 5, 5);
        }
        Checks.same("digest", loom.digest(), d);
    }

    private static void digestTakesShadesInTheirOrder() {
        TapestryRuns loom = new TapestryRuns();
        for (int y = 0; y < 8; y++) {
            loom.row(y, 12 * y, 1);
        }
        long d = folded(1549L, 3, 2, 0, 0, 0, 1200, 0, 0);
        for (int shade = 0; shade < 96; shade++) {
            d = folded(d, shade);
        }
        Checks.same("digest", loom.digest(), foldedTimes(d, 6, 200));
    }

    /** Worked out with numbers without a bound, and then left with their last 64 bits. */
    private static void digestWrapsAround() {
        BigInteger d = BigInteger.valueOf(1549);
        for (int number : new int[] {3, 2, 0, 0, 0, 1200, 0, 0}) {
            d = d.multiply(BigInteger.valueOf(31)).add(BigInteger.valueOf(number));
        }
        for (int nth = 0; nth < 102; nth++) {
            d = d.multiply(BigInteger.valueOf(31)).add(BigInteger.valueOf(nth < 96 ? 128 : 200));
        }
        Checks.yes("it is far beyond 64 bits", d.bitLength() > 500);
        Checks.same("digest", new TapestryRuns().digest(), d.longValue());
        Refusals.changesNothing("digest()", loom -> loom.digest());
    }

    private static long folded(long start, long... numbers) {
        long d = start;
        for (long number : numbers) {
            d = d * 31 + number;
        }
        return d;
    }

    private static long foldedTimes(long start, int times, long number) {
        long d = start;
        for (int time = 0; time < times; time++) {
            d = d * 31 + number;
        }
        return d;
    }
}
