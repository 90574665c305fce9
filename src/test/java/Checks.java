/** What the tests share: they count what is as due, print what is not, and end with exit code 1 then. */
final class Checks {
    interface Call {
        void go();
    }

    private static int passed = 0;
    private static int failed = 0;

    private Checks() {
    }

    static void same(String what, long got, long due) {
        tell(got == due, what + " answered " + got + ", due is " + due);
    }

    static void same(String what, double got, double due) {
        tell(got == due, what + " answered " + got + ", due is " + due);
    }

    static void same(String what, String got, String due) {
        tell(got.equals(due), what + " answered " + got + ", due is " + due);
    }

    static void yes(String what, boolean is) {
        tell(is, what);
    }

    /** The call throws just this exception, and changes nothing that the digest tells. */
    static void refused(TapestryRuns loom, String what, Class<? extends RuntimeException> due, Call call) {
        long before = loom.digest();
        Class<?> got = thrownBy(call);
        tell(got == due, what + " threw " + got + ", due is " + due);
        same("digest after " + what, loom.digest(), before);
    }

    static void outOfBounds(TapestryRuns loom, String what, Call call) {
        refused(loom, what, IndexOutOfBoundsException.class, call);
    }

    static void illegal(TapestryRuns loom, String what, Call call) {
        refused(loom, what, IllegalArgumentException.class, call);
    }

    static void wrongState(TapestryRuns loom, String what, Call call) {
        refused(loom, what, IllegalStateException.class, call);
    }

    static void end() {
        System.out.println("  " + passed + " as due, " + failed + " not as due");
        if (failed != 0 || passed == 0) {
            System.exit(1);
        }
    }

    private static Class<?> thrownBy(Call call) {
        try {
            call.go();
            return null;
        } catch (RuntimeException thrown) {
            return thrown.getClass();
        }
    }

    private static void tell(boolean asDue, String text) {
        if (asDue) {
            passed++;
        } else {
            failed++;
            System.out.println("  NOT AS DUE: " + text);
        }
    }
}
