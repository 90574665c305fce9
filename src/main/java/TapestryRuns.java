/**
 * A loom for tapestries: a pattern of shades is cut into boxes for a palette of few colours,
 * woven cell by cell in the nearest colour, and told about.
 */
public final class TapestryRuns {
    private static final int COLUMNS = 12;
    private static final int ROWS = 8;
    private static final int CELLS = 96;

    private static final int SHADES = 256;
    private static final int FIRST_SHADE = 128;
    private static final int STEEPEST_STEP = 60;

    private static final int FEWEST_COLOURS = 2;
    private static final int MOST_COLOURS = 6;
    private static final int FIRST_COLOURS = 3;

    private static final int CARRY_AHEAD = 1;
    private static final int CARRY_AROUND = 2;

    private static final int LONGEST_RUN = 9;

    private static final int FIRST_THREAD = 200;
    private static final int MOST_THREAD = 999;
    private static final int MOST_WOUND = 99;

    private static final int COUNTS = 8;
    private static final long FIRST_DIGEST = 1549L;

    private final Grid pattern = new Grid();
    private final Palette present = new Palette();
    private final Spools spools = new Spools();
    private Cloth kept = new Cloth();
    private Cloth trial = new Cloth();
    private int colours = FIRST_COLOURS;
    private int carry = CARRY_AROUND;
    private boolean turning = false;
    private boolean pressing = false;
    private int cloths = 0;

    public TapestryRuns() {
        pattern.fill(FIRST_SHADE);
    }

    // ---- the pattern

    public int set(int x, int y, int shade) throws IndexOutOfBoundsException, IllegalArgumentException {
        needCell(x, y);
        needShade(shade);
        int before = pattern.at(x, y);
        pattern.put(x, y, shade);
        return before;
    }

    public int row(int y, int from, int step) throws IndexOutOfBoundsException, IllegalArgumentException {
        needRow(y);
        needShade(from);
        needStep(step);
        for (int x = 0; x < COLUMNS; x++) {
            pattern.put(x, y, heldShade(from + step * x));
        }
        return pattern.at(COLUMNS - 1, y);
    }

    public int like(int y, int other) throws IndexOutOfBoundsException {
        needRow(y);
        needRow(other);
        int changed = 0;
        for (int x = 0; x < COLUMNS; x++) {
            int shade = pattern.at(x, other);
            if (pattern.at(x, y) != shade) {
                changed++;
            }
            pattern.put(x, y, shade);
        }
        return changed;
    }

    // ---- the loom

    public int setColours(int many) throws IllegalArgumentException {
        needColours(many);
        int before = colours;
        colours = many;
        return before;
    }

    public int setCarry(int way) throws IndexOutOfBoundsException {
        needUpTo(way, CARRY_AROUND);
        int before = carry;
        carry = way;
        return before;
    }

    public boolean setTurning(boolean is) {
        boolean before = turning;
        turning = is;
        return before;
    }

    public boolean setPressing(boolean is) {
        boolean before = pressing;
        pressing = is;
        return before;
    }

    public int wind(int colour, int thread) throws IndexOutOfBoundsException, IllegalArgumentException {
        needColour(colour);
        needWindable(thread);
        spools.add(colour, thread);
        return spools.holds(colour);
    }

    public int weave() throws IllegalStateException {
        trial.make(pattern, colours, carry, turning);
        needThreadFor(trial);
        spools.takeFor(trial);
        keepTrial();
        return kept.allKnots(pressing);
    }

    // ---- what there is

    public int shade(int x, int y) throws IndexOutOfBoundsException {
        needCell(x, y);
        return pattern.at(x, y);
    }

    public int palette(int colour) throws IndexOutOfBoundsException {
        needColour(colour);
        present.fit(pattern, colours);
        return present.shadeOf(colour);
    }

    public int cell(int x, int y) throws IndexOutOfBoundsException, IllegalStateException {
        needCell(x, y);
        needCloth();
        return kept.colourAt(x, y);
    }

    public int run(int y, int place, int what) throws IndexOutOfBoundsException, IllegalStateException {
        needRow(y);
        needUpTo(what, 1);
        needCloth();
        needUpTo(place, kept.runsOf(y) - 1);
        return what == 0 ? kept.colourOfRun(y, place) : kept.lengthOfRun(y, place);
    }

    public int knots(int y) throws IndexOutOfBoundsException, IllegalStateException {
        needRow(y);
        needCloth();
        return kept.knotsOf(y, pressing);
    }

    public int thread(int colour, int what) throws IndexOutOfBoundsException {
        needColour(colour);
        needUpTo(what, 2);
        if (what == 0) {
            return spools.holds(colour);
        }
        if (what == 1) {
            return hasCloth() ? kept.cellsIn(colour) : 0;
        }
        return hasCloth() ? kept.shadeOf(colour) : -1;
    }

    public int count(int what) throws IndexOutOfBoundsException {
        needUpTo(what, COUNTS - 1);
        return counted(what);
    }

    // ---- what would be

    public int would(int many, int what) throws IllegalArgumentException, IndexOutOfBoundsException {
        needColours(many);
        needUpTo(what, 2);
        trial.make(pattern, many, carry, turning);
        if (what == 0) {
            return trial.colourCount();
        }
        return what == 1 ? trial.offInAll() : trial.allKnots(pressing);
    }

    public int advise(int knots) throws IllegalArgumentException {
        needKnots(knots);
        int advised = -1;
        int leastOff = 0;
        for (int many = FEWEST_COLOURS; many <= MOST_COLOURS; many++) {
            trial.make(pattern, many, carry, turning);
            boolean fits = trial.allKnots(pressing) <= knots;
            if (fits && (advised < 0 || trial.offInAll() < leastOff)) {
                advised = many;
                leastOff = trial.offInAll();
            }
        }
        return advised;
    }

    public double mean() {
        int sum = 0;
        for (int y = 0; y < ROWS; y++) {
            for (int x = 0; x < COLUMNS; x++) {
                sum += pattern.at(x, y);
            }
        }
        return (double) sum / CELLS;
    }

    public long digest() {
        long d = FIRST_DIGEST;
        for (int what = 0; what < COUNTS; what++) {
            d = d * 31 + counted(what);
        }
        d = pattern.digestFrom(d);
        d = spools.digestFrom(d);
        return hasCloth() ? kept.digestFrom(d) : d;
    }

    // ---- how it is done

    private boolean hasCloth() {
        return cloths > 0;
    }

    /** The two cloths change places, so that no call has to make a new one. */
    private void keepTrial() {
        Cloth before = kept;
        kept = trial;
        trial = before;
        cloths++;
    }

    private int counted(int what) {
        switch (what) {
            case 0:
                return colours;
            case 1:
                return carry;
            case 2:
                return turning ? 1 : 0;
            case 3:
                return pressing ? 1 : 0;
            case 4:
                return cloths;
            case 5:
                return spools.holdInAll();
            case 6:
                return hasCloth() ? kept.offInAll() : 0;
            default:
                return hasCloth() ? kept.allKnots(pressing) : 0;
        }
    }

    private void needCloth() {
        if (!hasCloth()) {
            throw new IllegalStateException("no cloth is kept");
        }
    }

    private void needThreadFor(Cloth cloth) {
        if (!spools.sufficeFor(cloth)) {
            throw new IllegalStateException("a spool has not thread enough");
        }
    }

    private static void needCell(int x, int y) {
        if (!isCell(x, y)) {
            throw new IndexOutOfBoundsException("no such cell");
        }
    }

    private static void needRow(int y) {
        needUpTo(y, ROWS - 1);
    }

    private static void needColour(int colour) {
        needUpTo(colour, MOST_COLOURS - 1);
    }

    private static void needUpTo(int number, int last) {
        if (number < 0 || number > last) {
            throw new IndexOutOfBoundsException("no such number");
        }
    }

    private static void needShade(int shade) {
        needWithin(shade, 0, SHADES - 1);
    }

    private static void needStep(int step) {
        needWithin(step, -STEEPEST_STEP, STEEPEST_STEP);
    }

    private static void needColours(int many) {
        needWithin(many, FEWEST_COLOURS, MOST_COLOURS);
    }

    private static void needWindable(int thread) {
        needWithin(thread, 1, MOST_WOUND);
    }

    private static void needKnots(int knots) {
        needWithin(knots, 0, CELLS);
    }

    private static void needWithin(int number, int least, int most) {
        if (number < least || number > most) {
            throw new IllegalArgumentException("a number beyond its bounds");
        }
    }

    private static boolean isCell(int x, int y) {
        return x >= 0 && x < COLUMNS && y >= 0 && y < ROWS;
    }

    private static int heldShade(int shade) {
        return Math.max(0, Math.min(SHADES - 1, shade));
    }

    /** What stands at a place; 0 beyond the numbers. */
    private static int numberAt(int[] numbers, int place) {
        return place >= 0 && place < numbers.length ? numbers[place] : 0;
    }

    /** Puts a number at a place; beyond the numbers it is lost. */
    private static void putNumber(int[] numbers, int place, int number) {
        if (place >= 0 && place < numbers.length) {
            numbers[place] = number;
        }
    }

    private static void fillNumbers(int[] numbers, int number) {
        for (int place = 0; place < numbers.length; place++) {
            numbers[place] = number;
        }
    }

    /** The checksum d, gone on with the first so many of the numbers. */
    private static long digested(long d, int[] numbers, int many) {
        long next = d;
        for (int place = 0; place < many; place++) {
            next = next * 31 + numberAt(numbers, place);
        }
        return next;
    }

    /** A number for each cell; beyond the cloth there is 0, and what is put there is lost. */
    private static final class Grid {
        private final int[] numbers = new int[CELLS];

        int at(int x, int y) {
            return isCell(x, y) ? numberAt(numbers, y * COLUMNS + x) : 0;
        }

        void put(int x, int y, int number) {
            if (isCell(x, y)) {
                putNumber(numbers, y * COLUMNS + x, number);
            }
        }

        void add(int x, int y, int number) {
            put(x, y, at(x, y) + number);
        }

        void fill(int number) {
            fillNumbers(numbers, number);
        }

        long digestFrom(long d) {
            return digested(d, numbers, CELLS);
        }
    }

    /** The colours of a pattern. A box of shades is a stretch of all shades in order, told by its start. */
    private static final class Palette {
        private final int[] tally = new int[SHADES];
        private final int[] sorted = new int[CELLS];
        private final int[] starts = new int[MOST_COLOURS];
        private final int[] shades = new int[MOST_COLOURS];
        private int boxes = 0;

        void fit(Grid pattern, int many) {
            tallyShades(pattern);
            sortShades();
            boxes = 1;
            putNumber(starts, 0, 0);
            for (int made = 1; made < many && made < MOST_COLOURS; made++) {
                int widest = widestBox();
                if (spreadOf(widest) == 0) {
                    break;
                }
                split(widest);
            }
            for (int box = 0; box < boxes; box++) {
                putNumber(shades, box, meanOf(box));
            }
        }

        int size() {
            return boxes;
        }

        /** The shade of a colour; -1 if there are fewer colours. */
        int shadeOf(int colour) {
            return colour >= 0 && colour < boxes ? numberAt(shades, colour) : -1;
        }

        int nearestTo(int wanted) {
            int nearest = 0;
            int least = distance(0, wanted);
            for (int colour = 1; colour < boxes; colour++) {
                int here = distance(colour, wanted);
                if (here < least) {
                    nearest = colour;
                    least = here;
                }
            }
            return nearest;
        }

        long digestFrom(long d) {
            return digested(d, shades, boxes);
        }

        private int distance(int colour, int wanted) {
            return Math.abs(wanted - shadeOf(colour));
        }

        private void tallyShades(Grid pattern) {
            fillNumbers(tally, 0);
            for (int y = 0; y < ROWS; y++) {
                for (int x = 0; x < COLUMNS; x++) {
                    int shade = pattern.at(x, y);
                    putNumber(tally, shade, numberAt(tally, shade) + 1);
                }
            }
        }

        private void sortShades() {
            int place = 0;
            for (int shade = 0; shade < SHADES; shade++) {
                int many = numberAt(tally, shade);
                for (int nth = 0; nth < many; nth++) {
                    putNumber(sorted, place, shade);
                    place++;
                }
            }
        }

        private int widestBox() {
            int widest = 0;
            for (int box = 1; box < boxes; box++) {
                if (spreadOf(box) > spreadOf(widest)) {
                    widest = box;
                }
            }
            return widest;
        }

        private int spreadOf(int box) {
            return numberAt(sorted, endOf(box) - 1) - numberAt(sorted, startOf(box));
        }

        private int startOf(int box) {
            return numberAt(starts, box);
        }

        private int endOf(int box) {
            return box + 1 < boxes ? numberAt(starts, box + 1) : CELLS;
        }

        private void split(int box) {
            int middle = startOf(box) + (endOf(box) - startOf(box)) / 2;
            for (int later = boxes; later > box + 1; later--) {
                putNumber(starts, later, numberAt(starts, later - 1));
            }
            putNumber(starts, box + 1, middle);
            boxes++;
        }

        private int meanOf(int box) {
            int start = startOf(box);
            int end = endOf(box);
            int length = end - start;
            if (length <= 0) {
                return 0;
            }
            int sum = 0;
            for (int place = start; place < end; place++) {
                sum += numberAt(sorted, place);
            }
            return sum / length;
        }
    }

    /** A cloth: its palette, the colour of each cell, and the runs of its rows, numbered from 0. */
    private static final class Cloth {
        private final Palette dyes = new Palette();
        private final Grid woven = new Grid();
        private final Grid carried = new Grid();
        private final Grid runs = new Grid();
        private final int[] used = new int[MOST_COLOURS];
        private int off = 0;

        void make(Grid pattern, int many, int way, boolean turning) {
            dyes.fit(pattern, many);
            carried.fill(0);
            fillNumbers(used, 0);
            off = 0;
            for (int y = 0; y < ROWS; y++) {
                boolean back = turning && y % 2 == 1;
                makeRow(pattern, y, way, back);
                numberRuns(y);
            }
        }

        int colourCount() {
            return dyes.size();
        }

        int shadeOf(int colour) {
            return dyes.shadeOf(colour);
        }

        int colourAt(int x, int y) {
            return woven.at(x, y);
        }

        int cellsIn(int colour) {
            return numberAt(used, colour);
        }

        int offInAll() {
            return off;
        }

        int runsOf(int y) {
            return runs.at(COLUMNS - 1, y) + 1;
        }

        int colourOfRun(int y, int place) {
            for (int x = 0; x < COLUMNS; x++) {
                if (runs.at(x, y) == place) {
                    return woven.at(x, y);
                }
            }
            return -1;
        }

        int lengthOfRun(int y, int place) {
            int length = 0;
            for (int x = 0; x < COLUMNS; x++) {
                if (runs.at(x, y) == place) {
                    length++;
                }
            }
            return length;
        }

        int knotsOf(int y, boolean pressing) {
            return pressing && isAsAbove(y) ? 1 : runsOf(y);
        }

        int allKnots(boolean pressing) {
            int knots = 0;
            for (int y = 0; y < ROWS; y++) {
                knots += knotsOf(y, pressing);
            }
            return knots;
        }

        long digestFrom(long d) {
            return woven.digestFrom(dyes.digestFrom(d));
        }

        private void makeRow(Grid pattern, int y, int way, boolean back) {
            int ahead = back ? -1 : 1;
            for (int step = 0; step < COLUMNS; step++) {
                int x = back ? COLUMNS - 1 - step : step;
                int wanted = pattern.at(x, y) + carried.at(x, y);
                int colour = dyes.nearestTo(wanted);
                int shade = dyes.shadeOf(colour);
                woven.put(x, y, colour);
                putNumber(used, colour, numberAt(used, colour) + 1);
                off += Math.abs(shade - pattern.at(x, y));
                carryOn(wanted - shade, x, y, ahead, way);
            }
        }

        private void carryOn(int error, int x, int y, int ahead, int way) {
            if (way == CARRY_AHEAD) {
                carried.add(x + ahead, y, error);
            }
            if (way == CARRY_AROUND) {
                int toAhead = error * 7 / 16;
                int belowBehind = error * 3 / 16;
                int below = error * 5 / 16;
                carried.add(x + ahead, y, toAhead);
                carried.add(x - ahead, y + 1, belowBehind);
                carried.add(x, y + 1, below);
                carried.add(x + ahead, y + 1, error - toAhead - belowBehind - below);
            }
        }

        private void numberRuns(int y) {
            int number = 0;
            int length = 1;
            runs.put(0, y, 0);
            for (int x = 1; x < COLUMNS; x++) {
                boolean goesOn = woven.at(x, y) == woven.at(x - 1, y) && length < LONGEST_RUN;
                length = goesOn ? length + 1 : 1;
                number = goesOn ? number : number + 1;
                runs.put(x, y, number);
            }
        }

        private boolean isAsAbove(int y) {
            if (y <= 0) {
                return false;
            }
            for (int x = 0; x < COLUMNS; x++) {
                if (woven.at(x, y) != woven.at(x, y - 1)) {
                    return false;
                }
            }
            return true;
        }
    }

    /** The thread of each colour. */
    private static final class Spools {
        private final int[] threads = new int[MOST_COLOURS];

        Spools() {
            fillNumbers(threads, FIRST_THREAD);
        }

        int holds(int colour) {
            return numberAt(threads, colour);
        }

        int holdInAll() {
            int sum = 0;
            for (int colour = 0; colour < MOST_COLOURS; colour++) {
                sum += holds(colour);
            }
            return sum;
        }

        void add(int colour, int thread) {
            putNumber(threads, colour, Math.min(MOST_THREAD, holds(colour) + thread));
        }

        boolean sufficeFor(Cloth cloth) {
            for (int colour = 0; colour < MOST_COLOURS; colour++) {
                if (cloth.cellsIn(colour) > holds(colour)) {
                    return false;
                }
            }
            return true;
        }

        void takeFor(Cloth cloth) {
            for (int colour = 0; colour < MOST_COLOURS; colour++) {
                putNumber(threads, colour, holds(colour) - cloth.cellsIn(colour));
            }
        }

        long digestFrom(long d) {
            return digested(d, threads, MOST_COLOURS);
        }
    }
}
