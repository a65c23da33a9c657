/** Arguments at the edges of what the document names, and beyond them. */
final class Edges {
    static final int LOWEST = Integer.MIN_VALUE;
    static final int HIGHEST = Integer.MAX_VALUE;
    /** Of 4, 5, 6 and 7 bells. */
    static final int[] ROUNDS = {1234, 12345, 123456, 1234567};
    static final int[] BACKWARDS = {4321, 54321, 654321, 7654321};
    static final int[] NO_ROWS_OF_FIVE = {
        12344, 11345, 12340, 2345, 12346, 92345, 1234, 123456, 112345, 123450, 0, 1, -1, -12345, LOWEST, HIGHEST,
    };
    static final int[] NO_CHANGES_OF_FIVE = {0, 2, 3, 8, 15, 30, 32, 33, 63, -1, -31, LOWEST, HIGHEST};
    static final int[] NO_CALLS = {-1, 3, -2, 4, LOWEST, HIGHEST};
    static final int[] NO_LEADS = {-1, 6, -5, 7, LOWEST, HIGHEST};

    private Edges() {
    }

    /** Numbers that are no place among so many, from 0. */
    static int[] noPlaceOf(int many) {
        return new int[] {-1, many, many + 1, LOWEST, HIGHEST};
    }

    /** Numbers that are none of so many bells, from 1. */
    static int[] noBellOf(int n) {
        return new int[] {0, n + 1, -1, n + 2, LOWEST, HIGHEST};
    }
}
