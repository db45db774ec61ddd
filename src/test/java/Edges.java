/** Values at which a type, or a bound of the document, ends; some wrap around into it if cut short. */
final class Edges {
    static final long MOST = 1L << 62;

    static final int[] INTS_BELOW_0 = {-1, -2, -255, -65536, Integer.MIN_VALUE + 1, Integer.MIN_VALUE};
    static final int[] NO_OWNERS = {
        -1, -2, -255, -256, Integer.MIN_VALUE, Integer.MIN_VALUE + 1,
        256, 257, 511, 65536, Integer.MAX_VALUE - 1, Integer.MAX_VALUE,
    };
    static final long[] NO_AMOUNTS = {
        0, -1, -2, -4294967295L, -MOST, Long.MIN_VALUE + 1, Long.MIN_VALUE,
    };
    static final int[] INTS = {
        Integer.MIN_VALUE, Integer.MIN_VALUE + 1, -65536, -256, -17, -1, 0, 1, 2, 3, 4, 9, 10, 15, 16, 17,
        63, 64, 65, 255, 256, 2047, 2048, 65536, Integer.MAX_VALUE - 1, Integer.MAX_VALUE,
    };
    static final long[] LONGS = {
        Long.MIN_VALUE, Long.MIN_VALUE + 1, -MOST - 1, -MOST, -4294967296L, -1, 0, 1,
        4294967296L, MOST - 1, MOST, MOST + 1, Long.MAX_VALUE - 1, Long.MAX_VALUE,
    };

    private Edges() {
    }

    /** NUMBERS that no OUTPUT has where so many were made. */
    static int[] noNumbers(int made) {
        return new int[] {
            -1, -2, -65536, Integer.MIN_VALUE + 1, Integer.MIN_VALUE,
            made, made + 1, 2047, 2048, 65536, Integer.MAX_VALUE - 1, Integer.MAX_VALUE,
        };
    }
}
