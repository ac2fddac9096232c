/** Numbers that are none of those the document tells: those just beside, far ones, and ones that wrap. */
final class Wrong {
    static final int[] USERS = {-1, 8, 9, 15, 256, -8, 1 << 16, Integer.MIN_VALUE, Integer.MAX_VALUE};
    static final int[] SESSIONS = USERS;
    static final int[] TEXTS = {-1, 2, 3, 256, -2, 1 << 16, Integer.MIN_VALUE, Integer.MAX_VALUE};
    static final int[] SIGNS = {0, -1, 256, 257, -255, 1 << 16, Integer.MIN_VALUE, Integer.MAX_VALUE};
    static final long[] LIMITS = {0, -1, 1_000_000_000_001L, -1_000_000L, 1L << 40, 1L << 62,
        Long.MIN_VALUE, Long.MAX_VALUE};
    static final long[] TIMES = {0, -1, 10_000_000_001L, -10_000_000_000L, 1L << 34, 1L << 62,
        Long.MIN_VALUE, Long.MAX_VALUE};

    private Wrong() {
    }
}
