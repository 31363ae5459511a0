/** The values at the bounds: the last ones that are in, and those that are out on each side. */
final class Bounds {
    private static final int LEAST = Integer.MIN_VALUE;
    private static final int GREATEST = Integer.MAX_VALUE;

    static final long MOST_TIMES = 1_000_000_000_000_000L;
    static final long ALL_POINTS = -1L;

    /**
     * Behind the first one out on each side and the outermost ints stand some that would be in,
     * if their low bits alone were looked at.
     */
    static final int[] NO_POINTS = {-1, 64, LEAST, GREATEST, -64, -63, 65, 127, 128};
    static final int[] NO_LABELS = {-1, 8, LEAST, GREATEST, -8, -7, 9, 15, 16, 32, 64};
    static final int[] NO_WORDS = {-1, 8, LEAST, GREATEST, -8, -7, 9, 15, 16, 256};
    static final int[] NO_MASKS = {-1, 256, LEAST, GREATEST, -256, -255, 257, 511, 512};

    static final int[] LAST_POINTS = {0, 63};
    static final int[] LAST_LABELS = {0, 7};
    static final int[] LAST_WORDS = {0, 7};
    static final int[] LAST_MASKS = {0, 255};

    private Bounds() {
    }
}
