/** The numbers that a bound is tried with. */
final class Bounds {
    private Bounds() {
    }

    /** At the bounds, and one step inside them. */
    static int[] within(int least, int most) {
        return new int[] {least, least + 1, most - 1, most};
    }

    /** One step beyond the bounds, and as far as a number goes. */
    static int[] beyond(int least, int most) {
        return new int[] {least - 1, most + 1, Integer.MIN_VALUE, Integer.MAX_VALUE};
    }
}
