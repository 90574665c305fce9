/** All promises: long runs of calls, the same ones every time, each answer against that of the model. */
public final class ModelTest {
    private static final int RUNS = 400;
    /** With the digest that is asked after every seventh call these are the 512 calls that are promised. */
    private static final int CALLS = 448;
    private static final int CALLS_TO_A_DIGEST = 7;
    private static final int[] WILD = {Integer.MIN_VALUE, Integer.MAX_VALUE, -1, -2, 2, 3, 6, 7, 8, 9, 12, 13, 61, -61, 97, 100, 256, 1000};

    private static long seed = 1;

    public static void main(String[] args) {
        for (int run = 0; run < RUNS; run++) {
            oneRun(run);
        }
        Checks.end();
    }

    private static void oneRun(int run) {
        TapestryRuns loom = new TapestryRuns();
        Model model = new Model();
        for (int call = 0; call < CALLS; call++) {
            int which = anyOf(22);
            int a = argument(which, 0);
            int b = argument(which, 1);
            int c = argument(which, 2);
            String got = ofLoom(loom, which, a, b, c);
            String due = ofModel(model, which, a, b, c);
            if (!got.equals(due)) {
                Checks.same("run " + run + ", call " + call + ", " + which + "(" + a + ", " + b + ", " + c + ")", got, due);
                return;
            }
            if (call % CALLS_TO_A_DIGEST == CALLS_TO_A_DIGEST - 1) {
                long digest = loom.digest();
                if (digest != model.digest()) {
                    Checks.same("run " + run + ", digest after call " + call + ", " + which, digest, model.digest());
                    return;
                }
            }
        }
        Checks.yes("run " + run, true);
    }

    private static int anyOf(int many) {
        seed = seed * 6364136223846793005L + 1442695040888963407L;
        return (int) ((seed >>> 33) % many);
    }

    /** Mostly what the call takes, now and then what it refuses. */
    private static int argument(int which, int place) {
        if (anyOf(25) == 0) {
            return WILD[anyOf(WILD.length)];
        }
        int[][] most = {{12, 8, 256}, {8, 256, 0}, {8, 8, 0}, {0, 0, 0}, {3, 0, 0}, {2, 0, 0}, {2, 0, 0}, {6, 0, 0},
            {1, 1, 1}, {12, 8, 0}, {6, 0, 0}, {12, 8, 0}, {8, 12, 2}, {8, 0, 0}, {6, 3, 0}, {8, 0, 0}, {0, 3, 0},
            {97, 0, 0}, {1, 1, 1}, {1, 1, 1}, {8, 8, 0}, {8, 256, 0}};
        if (most[which][place] > 0) {
            return anyOf(most[which][place]);
        }
        if ((which == 1 || which == 21) && place == 2) {
            return anyOf(3) == 0 ? 0 : anyOf(121) - 60;
        }
        if (which == 7 && place == 1) {
            return 1 + anyOf(99);
        }
        if ((which == 3 || which == 16) && place == 0) {
            return 2 + anyOf(5);
        }
        return 0;
    }

    private static String ofLoom(TapestryRuns loom, int which, int a, int b, int c) {
        try {
            switch (which) {
                case 0: return "" + loom.set(a, b, c);
                case 1: case 21: return "" + loom.row(a, b, c);
                case 2: case 20: return "" + loom.like(a, b);
                case 3: return "" + loom.setColours(a);
                case 4: return "" + loom.setCarry(a);
                case 5: return "" + loom.setTurning(a == 1);
                case 6: return "" + loom.setPressing(a == 1);
                case 7: return "" + loom.wind(a, b);
                case 8: return "" + loom.weave();
                case 9: return "" + loom.shade(a, b);
                case 10: return "" + loom.palette(a);
                case 11: return "" + loom.cell(a, b);
                case 12: return "" + loom.run(a, b, c);
                case 13: return "" + loom.knots(a);
                case 14: return "" + loom.thread(a, b);
                case 15: return "" + loom.count(a);
                case 16: return "" + loom.would(a, b);
                case 17: return "" + loom.advise(a);
                case 18: return "" + loom.mean();
                default: return "" + loom.digest();
            }
        } catch (RuntimeException thrown) {
            return thrown.getClass().getName();
        }
    }

    private static String ofModel(Model model, int which, int a, int b, int c) {
        try {
            switch (which) {
                case 0: return "" + model.set(a, b, c);
                case 1: case 21: return "" + model.row(a, b, c);
                case 2: case 20: return "" + model.like(a, b);
                case 3: return "" + model.setColours(a);
                case 4: return "" + model.setCarry(a);
                case 5: return "" + model.setTurning(a == 1);
                case 6: return "" + model.setPressing(a == 1);
                case 7: return "" + model.wind(a, b);
                case 8: return "" + model.weave();
                case 9: return "" + model.shade(a, b);
                case 10: return "" + model.palette(a);
                case 11: return "" + model.cell(a, b);
                case 12: return "" + model.run(a, b, c);
                case 13: return "" + model.knots(a);
                case 14: return "" + model.thread(a, b);
                case 15: return "" + model.count(a);
                case 16: return "" + model.would(a, b);
                case 17: return "" + model.advise(a);
                case 18: return "" + model.mean();
                default: return "" + model.digest();
            }
        } catch (RuntimeException thrown) {
            return thrown.getClass().getName();
        }
    }
}
