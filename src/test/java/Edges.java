import java.util.Arrays;

/** Numbers just outside of what the document allows, and as far outside as an int goes. */
final class Edges {
    static final int LOWEST = Integer.MIN_VALUE;
    static final int HIGHEST = Integer.MAX_VALUE;
    static final int[] NO_TERMINALS = outside(1, 6);
    static final int[] NO_NONTERMINALS = with(outside(8, 13), 0, 1, 6);
    /** What is no symbol, but for 0, which can stand for nothing. */
    static final int[] NO_SYMBOLS = with(Arrays.stream(outside(1, 13)).filter(s -> s != 0).toArray(), 7);

    private Edges() {
    }

    /** Also numbers that would be inside if only their lowest bits, or their amounts, were looked at. */
    static int[] outside(int lowest, int highest) {
        int[] far = {LOWEST, lowest - 65536, lowest - 256, lowest - 1, highest + 1, lowest + 256, lowest + 65536, HIGHEST};
        return highest > 0 ? with(far, -highest) : far;
    }

    private static int[] with(int[] numbers, int... more) {
        int[] all = Arrays.copyOf(numbers, numbers.length + more.length);
        System.arraycopy(more, 0, all, numbers.length, more.length);
        return all;
    }
}
