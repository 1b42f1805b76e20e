/** Promises 2 to 7: row, share, drop, set, get, wrap. */
public final class LoopsTest {
    private static final Checks CHECKS = new Checks();

    public static void main(String[] args) {
        for (int which = 0; which < 2; which++) {
            boolean curve = which == 1;
            rowIsNewAndZero(curve);
            rowRefusesWhatIsBad(curve);
            shareGivesTheVeryRow(curve);
            dropTakesOnlyOne(curve);
            setAndGetKeepAllBits(curve);
            setAndGetRefuse(curve);
            wrapIsARest(curve);
            wrapRefuses(curve);
        }
        tracksAndCurvesAreApart();
        floatBitsAreTheLowest32();
        bitsAreBadByWidth();
        wrapIsOfItsWidth();
        CHECKS.end();
    }

    private static long bits(boolean curve, double x) {
        return curve ? Told.d(x) : Told.f(x);
    }

    private static void itemIs(LoopMixer x, boolean curve, int k, int i, double want) {
        String call = "get(" + curve + ", " + k + ", " + i + ")";
        CHECKS.tells(x, call, x.get(curve, k, i), bits(curve, want));
    }

    private static void rowIsNewAndZero(boolean curve) {
        LoopMixer x = new LoopMixer();
        for (int k = 0; k < 6; k++) {
            CHECKS.due("get of none", x.get(curve, k, 0), Told.MISSING);
        }
        for (int n = 0; n <= 16; n++) {
            CHECKS.due("row of " + n, x.row(curve, n % 6, n), 1);
            for (int i = 0; i < n; i++) {
                itemIs(x, curve, n % 6, i, 0.0);
                CHECKS.due("set", x.set(curve, n % 6, i, bits(curve, i + 0.5)), 1);
            }
            CHECKS.due("get past the end", x.get(curve, n % 6, n), Told.OUTSIDE);
        }
        CHECKS.due("row anew", x.row(curve, 4, 16), 1);
        itemIs(x, curve, 4, 15, 0.0);
        CHECKS.due("row anew, shorter", x.row(curve, 4, 2), 1);
        CHECKS.due("get past the new end", x.get(curve, 4, 2), Told.OUTSIDE);
    }

    private static void rowRefusesWhatIsBad(boolean curve) {
        LoopMixer x = new LoopMixer();
        CHECKS.due("row", x.row(curve, 0, 3), 1);
        CHECKS.due("set", x.set(curve, 0, 1, bits(curve, 2.5)), 1);
        for (int k : new int[] {-1, 6, Integer.MIN_VALUE, Integer.MAX_VALUE}) {
            CHECKS.refuses(x, "row " + k, () -> x.row(curve, k, 3), Told.BAD);
        }
        for (int n : new int[] {-1, 17, Integer.MIN_VALUE, Integer.MAX_VALUE}) {
            CHECKS.refuses(x, "row of " + n, () -> x.row(curve, 0, n), Told.BAD);
        }
        itemIs(x, curve, 0, 1, 2.5);
    }

    private static void shareGivesTheVeryRow(boolean curve) {
        LoopMixer x = new LoopMixer();
        x.row(curve, 0, 2);
        CHECKS.due("share", x.share(curve, 0, 5), 1);
        x.set(curve, 5, 1, bits(curve, -3.25));
        itemIs(x, curve, 0, 1, -3.25);
        x.set(curve, 0, 1, bits(curve, 7.0));
        itemIs(x, curve, 5, 1, 7.0);
        CHECKS.due("share with itself", x.share(curve, 5, 5), 1);
        itemIs(x, curve, 5, 1, 7.0);
        CHECKS.due("drop of the first", x.drop(curve, 0), 1);
        itemIs(x, curve, 5, 1, 7.0);
        x.row(curve, 0, 1);
        itemIs(x, curve, 5, 1, 7.0);
        x.row(curve, 1, 0);
        CHECKS.due("share of a row without items", x.share(curve, 1, 2), 1);
        CHECKS.due("get there", x.get(curve, 2, 0), Told.OUTSIDE);
        CHECKS.due("share of none", x.share(curve, 4, 5), 0);
        CHECKS.due("get there", x.get(curve, 5, 0), Told.MISSING);
        CHECKS.due("share of none with itself", x.share(curve, 4, 4), 0);
        for (int k : new int[] {-1, 6, Integer.MIN_VALUE, Integer.MAX_VALUE}) {
            CHECKS.refuses(x, "share from " + k, () -> x.share(curve, k, 0), Told.BAD);
            CHECKS.refuses(x, "share to " + k, () -> x.share(curve, 0, k), Told.BAD);
        }
        itemIs(x, curve, 0, 0, 0.0);
    }

    private static void dropTakesOnlyOne(boolean curve) {
        LoopMixer x = new LoopMixer();
        CHECKS.due("drop of none", x.drop(curve, 5), 0);
        x.row(curve, 5, 0);
        x.row(curve, 4, 1);
        CHECKS.due("drop", x.drop(curve, 5), 1);
        CHECKS.due("drop again", x.drop(curve, 5), 0);
        CHECKS.due("get", x.get(curve, 5, 0), Told.MISSING);
        itemIs(x, curve, 4, 0, 0.0);
        for (int k : new int[] {-1, 6, Integer.MIN_VALUE, Integer.MAX_VALUE}) {
            CHECKS.refuses(x, "drop " + k, () -> x.drop(curve, k), Told.BAD);
        }
    }

    private static void setAndGetKeepAllBits(boolean curve) {
        LoopMixer x = new LoopMixer();
        x.row(curve, 3, 16);
        int top = curve ? 0x7FE : 0xFE;
        int width = curve ? 52 : 23;
        long[] fractions = {0L, 1L, (1L << width) - 1L, 0x5555555555555L & (1L << width) - 1L, 1L << width - 1};
        for (int exponent = 0; exponent <= top; exponent++) {
            for (long fraction : fractions) {
                long size = ((long) exponent << width) + fraction;
                keeps(x, curve, exponent % 16, size);
                keeps(x, curve, 15 - exponent % 16, curve ? size | Long.MIN_VALUE : (int) (size | 1L << 31));
            }
        }
    }

    private static void keeps(LoopMixer x, boolean curve, int i, long bits) {
        CHECKS.due("set " + Long.toHexString(bits), x.set(curve, 3, i, bits), 1);
        CHECKS.tells(x, "get " + Long.toHexString(bits), x.get(curve, 3, i), bits);
    }

    private static void setAndGetRefuse(boolean curve) {
        LoopMixer x = new LoopMixer();
        x.row(curve, 0, 2);
        x.row(curve, 1, 0);
        x.set(curve, 0, 1, bits(curve, 4.0));
        itemIs(x, curve, 0, 1, 4.0);
        long bad = curve ? Told.BAD_DOUBLES[0] : Told.BAD_FLOATS[0];
        for (int k : new int[] {-1, 6, Integer.MIN_VALUE, Integer.MAX_VALUE}) {
            CHECKS.refuses(x, "set in " + k, () -> x.set(curve, k, 0, 0L), Told.BAD);
            CHECKS.refuses(x, "get in " + k, () -> x.get(curve, k, 0), Told.BAD);
        }
        CHECKS.refuses(x, "set in none", () -> x.set(curve, 5, 0, 0L), Told.MISSING);
        CHECKS.refuses(x, "set outside in none", () -> x.set(curve, 5, 99, 0L), Told.MISSING);
        CHECKS.refuses(x, "set bad in none", () -> x.set(curve, 5, 0, bad), Told.BAD);
        CHECKS.refuses(x, "get in none", () -> x.get(curve, 5, -1), Told.MISSING);
        CHECKS.refuses(x, "set in no items", () -> x.set(curve, 1, 0, 0L), Told.OUTSIDE);
        CHECKS.refuses(x, "get in no items", () -> x.get(curve, 1, 0), Told.OUTSIDE);
        for (int i : new int[] {-1, 2, Integer.MIN_VALUE, Integer.MAX_VALUE}) {
            CHECKS.refuses(x, "set of " + i, () -> x.set(curve, 0, i, 0L), Told.OUTSIDE);
            CHECKS.refuses(x, "set bad of " + i, () -> x.set(curve, 0, i, bad), Told.BAD);
            CHECKS.refuses(x, "get of " + i, () -> x.get(curve, 0, i), Told.OUTSIDE);
        }
        itemIs(x, curve, 0, 1, 4.0);
    }

    private static void wrapIsARest(boolean curve) {
        double[] items = curve
            ? new double[] {0.0, -0.0, 1.0, -1.5, 0.5, 3.7, 1e300, -1e-300, 4.9e-324, 2.2250738585072014E-308,
                -2.225073858507201E-308, Double.MAX_VALUE, -Double.MAX_VALUE, 3.0, 1.5e-323, 0.1}
            : new double[] {0.0f, -0.0f, 1.0f, -1.5f, 0.5f, 3.7f, 1e30f, -1e-30f, 1.4e-45f, 1.17549435E-38f,
                -1.1754942E-38f, Float.MAX_VALUE, -Float.MAX_VALUE, 3.0f, 4.2e-45f, 0.1f};
        for (int i = 0; i < 16; i++) {
            for (int j = 0; j < 16; j++) {
                wrapsTo(curve, items, i, j);
            }
        }
    }

    private static void wrapsTo(boolean curve, double[] items, int i, int j) {
        LoopMixer x = new LoopMixer();
        x.row(curve, 2, 16);
        for (int at = 0; at < 16; at++) {
            x.set(curve, 2, at, bits(curve, items[at]));
        }
        String call = "wrap of " + items[i] + " by " + items[j];
        if (items[j] == 0.0) {
            CHECKS.refuses(x, call, () -> x.wrap(curve, 2, i, j), Told.BY_ZERO);
            itemIs(x, curve, 2, i, items[i]);
            return;
        }
        CHECKS.refuses(x, call, () -> x.wrap(curve, 2, i, j), 1);
        double rest = curve ? items[i] % items[j] : (float) items[i] % (float) items[j];
        itemIs(x, curve, 2, i, rest);
        if (i != j) {
            itemIs(x, curve, 2, j, items[j]);
        }
    }

    private static void wrapRefuses(boolean curve) {
        LoopMixer x = new LoopMixer();
        x.row(curve, 0, 2);
        x.row(curve, 1, 0);
        x.set(curve, 0, 0, bits(curve, 5.0));
        for (int k : new int[] {-1, 6, Integer.MIN_VALUE, Integer.MAX_VALUE}) {
            CHECKS.refuses(x, "wrap in " + k, () -> x.wrap(curve, k, 0, 0), Told.BAD);
        }
        CHECKS.refuses(x, "wrap in none", () -> x.wrap(curve, 5, 9, 9), Told.MISSING);
        CHECKS.refuses(x, "wrap in no items", () -> x.wrap(curve, 1, 0, 0), Told.OUTSIDE);
        for (int i : new int[] {-1, 2, Integer.MIN_VALUE, Integer.MAX_VALUE}) {
            CHECKS.refuses(x, "wrap of " + i, () -> x.wrap(curve, 0, i, 0), Told.OUTSIDE);
            CHECKS.refuses(x, "wrap of " + i + " by zero", () -> x.wrap(curve, 0, i, 1), Told.OUTSIDE);
            CHECKS.refuses(x, "wrap by " + i, () -> x.wrap(curve, 0, 0, i), Told.OUTSIDE);
        }
        itemIs(x, curve, 0, 0, 5.0);
    }

    private static void tracksAndCurvesAreApart() {
        LoopMixer x = new LoopMixer();
        x.row(false, 0, 1);
        CHECKS.due("get of a curve", x.get(true, 0, 0), Told.MISSING);
        x.row(true, 0, 2);
        x.set(true, 0, 0, Told.d(0.1));
        x.set(false, 0, 0, Told.f(0.2));
        itemIs(x, true, 0, 0, 0.1);
        itemIs(x, false, 0, 0, 0.2);
        CHECKS.due("drop of the track", x.drop(false, 0), 1);
        itemIs(x, true, 0, 0, 0.1);
        CHECKS.due("share of the track", x.share(false, 0, 1), 0);
        CHECKS.due("share of the curve", x.share(true, 0, 1), 1);
        CHECKS.due("get of the track", x.get(false, 1, 0), Told.MISSING);
    }

    private static void floatBitsAreTheLowest32() {
        LoopMixer x = new LoopMixer();
        x.row(false, 0, 1);
        CHECKS.due("set", x.set(false, 0, 0, 0x7FF00000_3F800000L), 1);
        CHECKS.tells(x, "get", x.get(false, 0, 0), 0x3F800000L);
        CHECKS.due("set", x.set(false, 0, 0, 0x00000001_BF800000L), 1);
        CHECKS.tells(x, "get", x.get(false, 0, 0), (long) 0xBF800000);
        CHECKS.due("set", x.set(false, 0, 0, 0x12345678_80000000L), 1);
        CHECKS.tells(x, "get", x.get(false, 0, 0), (long) 0x80000000);
        CHECKS.due("set", x.set(false, 0, 0, 0x00000000_7F800000L), Told.BAD);
        CHECKS.due("set", x.set(false, 0, 0, 0x12345678_FFC00000L), Told.BAD);
    }

    private static void bitsAreBadByWidth() {
        LoopMixer x = new LoopMixer();
        x.row(false, 0, 1);
        x.row(true, 0, 1);
        for (int bits : Told.BAD_FLOATS) {
            CHECKS.due("set of a bad float", x.set(false, 0, 0, bits), Told.BAD);
        }
        for (long bits : Told.BAD_DOUBLES) {
            CHECKS.due("set of a bad double", x.set(true, 0, 0, bits), Told.BAD);
        }
        itemIs(x, false, 0, 0, 0.0);
        itemIs(x, true, 0, 0, 0.0);
        CHECKS.due("set of a bad float in a curve", x.set(true, 0, 0, 0x7F800000L), 1);
        CHECKS.tells(x, "get", x.get(true, 0, 0), 0x7F800000L);
    }

    private static void wrapIsOfItsWidth() {
        LoopMixer x = new LoopMixer();
        x.row(false, 0, 2);
        x.set(false, 0, 0, Told.f(1.0));
        x.set(false, 0, 1, Told.f(0.1));
        CHECKS.due("wrap", x.wrap(false, 0, 0, 1), 1);
        itemIs(x, false, 0, 0, 1.0f % 0.1f);
        x.row(true, 0, 2);
        x.set(true, 0, 0, Told.d(1.0));
        x.set(true, 0, 1, Told.d(0.1));
        CHECKS.due("wrap", x.wrap(true, 0, 0, 1), 1);
        itemIs(x, true, 0, 0, 1.0 % 0.1);
    }
}
