/** For each kind of argument what it must not be: the next one on either side, and the farthest. */
final class Wrong {
    private static final int LEAST = Integer.MIN_VALUE;
    private static final int MOST = Integer.MAX_VALUE;

    static final int[] BOUNDS = {-1, 10, 90, 100, 101, 110, 990, 1000, 1011, 1101, 1110, 9990, 10000, 11111, LEAST, MOST};
    static final int[] NAMES = {0, -1, -11, 10, 90, 100, 101, 110, 990, 1000, 1011, 1101, 1110, 9990, 10000, 11111, LEAST, MOST};
    static final int[] KEYS = beside(15);
    static final int[] SERIALS = beside(30);
    static final int[] TIMES = beside(999);
    static final int[] REACHES = beside(5);
    static final int[] USES = beside(3);
    static final int[] SETS_OF_USES = beside(15);
    static final int[] RESIDUES = beside(996);

    private Wrong() {
    }

    /** What is outside of 0 to that. */
    static int[] beside(int last) {
        return new int[] {-1, last + 1, LEAST, MOST};
    }
}
