/** Arguments that are out of their ranges: just below, just above, and far away. */
final class Wrong {
    static final int[] ENDS = {-1, 2, Integer.MIN_VALUE, Integer.MAX_VALUE};
    static final int[] OPTIONS = {-1, 4, Integer.MIN_VALUE, Integer.MAX_VALUE};
    static final int[] MARKS = {0, 1000, -1, Integer.MIN_VALUE, Integer.MAX_VALUE};
    static final int[] LEASTS = {-1, Integer.MIN_VALUE};
    static final int[] MOSTS = {101, Integer.MAX_VALUE};

    private Wrong() {
    }
}
