/** Numbers as the class is told them, and as it answers. */
final class Told {
    static final int BAD = -1;
    static final int MISSING = -11;
    static final int OUTSIDE = -12;
    static final int CAST = -13;
    static final int STORE = -14;
    static final int BY_ZERO = -15;

    static final int GAIN = 0;
    static final int FOLD = 1;
    static final int CRUSH = 2;

    static final double GREATEST = Float.MAX_VALUE;
    static final double SMALLEST = Float.MIN_VALUE;

    private static final int[] ENDLESS_FLOATS = {0x7F800000, 0xFF800000};
    private static final int[] NO_FLOATS = {0x7FC00000, 0xFFC00000, 0x7F800001, 0xFF800001, 0x7FFFFFFF, 0xFFFFFFFF};
    private static final long[] ENDLESS_DOUBLES = {0x7FF0000000000000L, 0xFFF0000000000000L};
    private static final long[] NO_DOUBLES = {
        0x7FF8000000000000L, 0xFFF8000000000000L, 0x7FF0000000000001L, 0xFFF0000000000001L, Long.MAX_VALUE, -1L
    };

    private Told() {
    }

    static long f(double x) {
        return Float.floatToRawIntBits((float) x);
    }

    static long d(double x) {
        return Double.doubleToRawLongBits(x);
    }

    static long bits(boolean wide, double x) {
        return wide ? d(x) : f(x);
    }

    static long[] endless(boolean wide) {
        return wide ? ENDLESS_DOUBLES.clone() : longs(ENDLESS_FLOATS);
    }

    static long[] noNumbers(boolean wide) {
        return wide ? NO_DOUBLES.clone() : longs(NO_FLOATS);
    }

    /** All bits that tell no number that can be held. */
    static long[] badBits(boolean wide) {
        long[] endless = endless(wide);
        long[] none = noNumbers(wide);
        long[] all = java.util.Arrays.copyOf(endless, endless.length + none.length);
        System.arraycopy(none, 0, all, endless.length, none.length);
        return all;
    }

    /** Numbers next to low .. high, and those farthest from them. */
    static int[] beside(int low, int high) {
        return new int[] {low - 1, high + 1, Integer.MIN_VALUE, Integer.MAX_VALUE};
    }

    private static long[] longs(int[] ints) {
        long[] longs = new long[ints.length];
        for (int i = 0; i < ints.length; i++) {
            longs[i] = ints[i];
        }
        return longs;
    }
}
