/**
 * Calls that change nothing. Two looms are made alike; one of them is asked, and then both must answer the same,
 * whatever they are asked.
 */
final class Refusals {
    interface Maker {
        TapestryRuns make();
    }

    /** Without a cloth, with one, and with one of another pattern than the loom has now. */
    private static final Maker[] ALL = {TapestryRuns::new, Patterns::woven, Patterns::changed};

    private Refusals() {
    }

    static void outOfBounds(String what, Answers.Call call) {
        for (Maker maker : ALL) {
            outOfBounds(maker, what, call);
        }
    }

    static void outOfBounds(Maker maker, String what, Answers.Call call) {
        refused(maker, what, IndexOutOfBoundsException.class, call);
    }

    static void illegal(String what, Answers.Call call) {
        for (Maker maker : ALL) {
            illegal(maker, what, call);
        }
    }

    static void illegal(Maker maker, String what, Answers.Call call) {
        refused(maker, what, IllegalArgumentException.class, call);
    }

    static void wrongState(Maker maker, String what, Answers.Call call) {
        refused(maker, what, IllegalStateException.class, call);
    }

    /** For calls that only tell something. */
    static void changesNothing(String what, Answers.Call call) {
        for (Maker maker : ALL) {
            TapestryRuns asked = maker.make();
            Answers.to(call, asked);
            sameAsNeverAsked(maker, what, asked);
        }
    }

    private static void refused(Maker maker, String what, Class<?> due, Answers.Call call) {
        TapestryRuns asked = maker.make();
        Checks.same(what, Answers.to(call, asked), due.getName());
        sameAsNeverAsked(maker, what, asked);
    }

    private static void sameAsNeverAsked(Maker maker, String what, TapestryRuns asked) {
        Checks.same("what is asked after " + what, Answers.of(asked), Answers.of(maker.make()));
    }
}
