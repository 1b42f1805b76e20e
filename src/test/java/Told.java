/** Numbers as the class is told them. */
final class Told {
    static final int MISSING = -11;
    static final int OUTSIDE = -12;
    static final int CAST = -13;
    static final int STORE = -14;
    static final int BY_ZERO = -15;
    static final int BAD = -1;

    static final int[] BAD_FLOATS = {0x7F800000, 0xFF800000, 0x7FC00000, 0xFFC00000, 0x7F800001, 0xFFFFFFFF};
    static final long[] BAD_DOUBLES = {
        0x7FF0000000000000L, 0xFFF0000000000000L, 0x7FF8000000000000L, 0xFFF8000000000000L, 0x7FF0000000000001L, -1L
    };

    private Told() {
    }

    static long f(double x) {
        return Float.floatToRawIntBits((float) x);
    }

    static long d(double x) {
        return Double.doubleToRawLongBits(x);
    }
}
