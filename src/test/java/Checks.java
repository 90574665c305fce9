/** What the tests share: they count what is as due, print what is not, and end with exit code 1 then. */
final class Checks {
    private static int passed = 0;
    private static int failed = 0;

    private Checks() {
    }

    static void same(String what, long got, long due) {
        tell(got == due, what + " answered " + got + ", due is " + due);
    }

    static void same(String what, double got, double due) {
        tell(got == due, what + " answered " + got + ", due is " + due);
    }

    static void same(String what, String got, String due) {
        tell(got.equals(due), what + " answered " + got + ", due is " + due);
    }

    static void yes(String what, boolean is) {
        tell(is, what);
    }

    static void end() {
        System.out.println("  " + passed + " as due, " + failed + " not as due");
        if (failed != 0 || passed == 0) {
            System.exit(1);
        }
    }

    private static void tell(boolean asDue, String text) {
        if (asDue) {
            passed++;
        } else {
            failed++;
            System.out.println("  NOT AS DUE: " + text);
        }
    }
}
