import java.util.ArrayList;
import java.util.Arrays;
import java.util.Collections;
import java.util.List;

/** The document written a second time, with lists and without any care for speed; it keeps nothing that can be worked out. */
final class Model {
    private static final class Woven {
        final List<Integer> palette = new ArrayList<>();
        final int[][] colours = new int[8][12];
        int off = 0;
    }

    private final int[][] pattern = new int[8][12];
    private final int[] spools = {200, 200, 200, 200, 200, 200};
    private int colours = 3;
    private int way = 2;
    private boolean turning = false;
    private boolean pressing = false;
    private int cloths = 0;
    private Woven kept = null;

    Model() {
        for (int[] row : pattern) {
            Arrays.fill(row, 128);
        }
    }

    private static void index(boolean good) {
        if (!good) {
            throw new IndexOutOfBoundsException();
        }
    }

    private static void argument(boolean good) {
        if (!good) {
            throw new IllegalArgumentException();
        }
    }

    private static void state(boolean good) {
        if (!good) {
            throw new IllegalStateException();
        }
    }

    private static boolean in(int number, int least, int most) {
        return least <= number && number <= most;
    }

    int set(int x, int y, int shade) {
        index(in(x, 0, 11) && in(y, 0, 7));
        argument(in(shade, 0, 255));
        int before = pattern[y][x];
        pattern[y][x] = shade;
        return before;
    }

    int row(int y, int from, int step) {
        index(in(y, 0, 7));
        argument(in(from, 0, 255) && in(step, -60, 60));
        for (int x = 0; x < 12; x++) {
            int shade = from + step * x;
            pattern[y][x] = shade < 0 ? 0 : shade > 255 ? 255 : shade;
        }
        return pattern[y][11];
    }

    int like(int y, int other) {
        index(in(y, 0, 7) && in(other, 0, 7));
        int changed = 0;
        for (int x = 0; x < 12; x++) {
            changed += pattern[y][x] == pattern[other][x] ? 0 : 1;
            pattern[y][x] = pattern[other][x];
        }
        return changed;
    }

    int setColours(int many) {
        argument(in(many, 2, 6));
        int before = colours;
        colours = many;
        return before;
    }

    int setCarry(int next) {
        index(in(next, 0, 2));
        int before = way;
        way = next;
        return before;
    }

    boolean setTurning(boolean is) {
        boolean before = turning;
        turning = is;
        return before;
    }

    boolean setPressing(boolean is) {
        boolean before = pressing;
        pressing = is;
        return before;
    }

    int wind(int colour, int thread) {
        index(in(colour, 0, 5));
        argument(in(thread, 1, 99));
        spools[colour] += thread;
        if (spools[colour] > 999) {
            spools[colour] = 999;
        }
        return spools[colour];
    }

    int weave() {
        Woven next = woven(colours);
        for (int colour = 0; colour < 6; colour++) {
            state(spools[colour] >= cellsOf(next, colour));
        }
        for (int colour = 0; colour < 6; colour++) {
            spools[colour] -= cellsOf(next, colour);
        }
        kept = next;
        cloths++;
        return knotsOf(next);
    }

    int shade(int x, int y) {
        index(in(x, 0, 11) && in(y, 0, 7));
        return pattern[y][x];
    }

    int palette(int colour) {
        index(in(colour, 0, 5));
        List<Integer> shades = paletteOf(colours);
        return colour < shades.size() ? shades.get(colour) : -1;
    }

    int cell(int x, int y) {
        index(in(x, 0, 11) && in(y, 0, 7));
        state(kept != null);
        return kept.colours[y][x];
    }

    int run(int y, int place, int what) {
        index(in(y, 0, 7) && in(what, 0, 1));
        state(kept != null);
        List<int[]> runs = runsOf(kept, y);
        index(in(place, 0, runs.size() - 1));
        return runs.get(place)[what];
    }

    int knots(int y) {
        index(in(y, 0, 7));
        state(kept != null);
        return knotsOf(kept, y);
    }

    int thread(int colour, int what) {
        index(in(colour, 0, 5) && in(what, 0, 2));
        if (what == 0) {
            return spools[colour];
        }
        if (kept == null) {
            return what == 1 ? 0 : -1;
        }
        if (what == 1) {
            return cellsOf(kept, colour);
        }
        return colour < kept.palette.size() ? kept.palette.get(colour) : -1;
    }

    int count(int what) {
        index(in(what, 0, 7));
        int thread = 0;
        for (int holds : spools) {
            thread += holds;
        }
        int off = kept == null ? 0 : kept.off;
        int knots = kept == null ? 0 : knotsOf(kept);
        int[] counts = {colours, way, turning ? 1 : 0, pressing ? 1 : 0, cloths, thread, off, knots};
        return counts[what];
    }

    int would(int many, int what) {
        argument(in(many, 2, 6));
        index(in(what, 0, 2));
        Woven next = woven(many);
        int[] answers = {next.palette.size(), next.off, knotsOf(next)};
        return answers[what];
    }

    int advise(int knots) {
        argument(in(knots, 0, 96));
        int best = -1;
        for (int many = 6; many >= 2; many--) {
            if (knotsOf(woven(many)) <= knots && (best == -1 || woven(many).off <= woven(best).off)) {
                best = many;
            }
        }
        return best;
    }

    double mean() {
        double sum = 0;
        for (int[] row : pattern) {
            for (int shade : row) {
                sum += shade;
            }
        }
        return sum / 96;
    }

    long digest() {
        List<Integer> numbers = new ArrayList<>();
        for (int what = 0; what < 8; what++) {
            numbers.add(count(what));
        }
        addRows(numbers, pattern);
        for (int holds : spools) {
            numbers.add(holds);
        }
        if (kept != null) {
            numbers.addAll(kept.palette);
            addRows(numbers, kept.colours);
        }
        long d = 1549;
        for (int number : numbers) {
            d = d * 31 + number;
        }
        return d;
    }

    private static void addRows(List<Integer> numbers, int[][] rows) {
        for (int[] row : rows) {
            for (int number : row) {
                numbers.add(number);
            }
        }
    }

    private List<Integer> paletteOf(int many) {
        List<Integer> all = new ArrayList<>();
        addRows(all, pattern);
        Collections.sort(all);
        List<List<Integer>> boxes = new ArrayList<>();
        boxes.add(all);
        while (boxes.size() < many) {
            int greatest = 0;
            int which = -1;
            for (int box = 0; box < boxes.size(); box++) {
                List<Integer> shades = boxes.get(box);
                int difference = shades.get(shades.size() - 1) - shades.get(0);
                if (difference > greatest) {
                    greatest = difference;
                    which = box;
                }
            }
            if (which == -1) {
                break;
            }
            List<Integer> shades = boxes.get(which);
            int half = shades.size() / 2;
            boxes.set(which, new ArrayList<>(shades.subList(0, half)));
            boxes.add(which + 1, new ArrayList<>(shades.subList(half, shades.size())));
        }
        List<Integer> means = new ArrayList<>();
        for (List<Integer> shades : boxes) {
            int sum = 0;
            for (int shade : shades) {
                sum += shade;
            }
            means.add(sum / shades.size());
        }
        return means;
    }

    private Woven woven(int many) {
        Woven next = new Woven();
        next.palette.addAll(paletteOf(many));
        // A border all round takes what is lost.
        int[][] wanted = new int[10][14];
        for (int y = 0; y < 8; y++) {
            for (int x = 0; x < 12; x++) {
                wanted[y + 1][x + 1] = pattern[y][x];
            }
        }
        for (int y = 0; y < 8; y++) {
            boolean back = turning && (y == 1 || y == 3 || y == 5 || y == 7);
            for (int nth = 0; nth < 12; nth++) {
                int x = back ? 11 - nth : nth;
                int want = wanted[y + 1][x + 1];
                int colour = 0;
                for (int other = 0; other < next.palette.size(); other++) {
                    if (Math.abs(next.palette.get(other) - want) < Math.abs(next.palette.get(colour) - want)) {
                        colour = other;
                    }
                }
                int shade = next.palette.get(colour);
                next.colours[y][x] = colour;
                next.off += shade > pattern[y][x] ? shade - pattern[y][x] : pattern[y][x] - shade;
                carry(wanted, y + 1, x + 1, back ? x : x + 2, want - shade);
            }
        }
        return next;
    }

    private void carry(int[][] wanted, int y, int x, int ahead, int error) {
        if (way == 1) {
            wanted[y][ahead] += error;
        } else if (way == 2) {
            int behind = x + x - ahead;
            int seven = error * 7 / 16;
            int three = error * 3 / 16;
            int five = error * 5 / 16;
            wanted[y][ahead] += seven;
            wanted[y + 1][behind] += three;
            wanted[y + 1][x] += five;
            wanted[y + 1][ahead] += error - (seven + three + five);
        }
    }

    private static int cellsOf(Woven cloth, int colour) {
        int cells = 0;
        for (int[] row : cloth.colours) {
            for (int one : row) {
                cells += one == colour ? 1 : 0;
            }
        }
        return cells;
    }

    private static List<int[]> runsOf(Woven cloth, int y) {
        List<int[]> runs = new ArrayList<>();
        int[] last = {-1, 0};
        for (int colour : cloth.colours[y]) {
            if (colour != last[0] || last[1] == 9) {
                last = new int[] {colour, 0};
                runs.add(last);
            }
            last[1]++;
        }
        return runs;
    }

    private int knotsOf(Woven cloth, int y) {
        if (pressing && y > 0 && Arrays.equals(cloth.colours[y], cloth.colours[y - 1])) {
            return 1;
        }
        return runsOf(cloth, y).size();
    }

    private int knotsOf(Woven cloth) {
        int knots = 0;
        for (int y = 0; y < 8; y++) {
            knots += knotsOf(cloth, y);
        }
        return knots;
    }
}
