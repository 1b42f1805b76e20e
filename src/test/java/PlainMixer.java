/**
 * The document once more, written apart from LoopMixer and with all that the library has
 * (bits, % on floats and doubles, classes for kinds), for tests that compare the two.
 */
final class PlainMixer {
    private static class Gain {
        final double amount;

        Gain(double amount) {
            this.amount = amount;
        }

        double make(double s) {
            return s * amount;
        }
    }

    private static final class Fold extends Gain {
        Fold(double amount) {
            super(amount);
        }

        @Override
        double make(double s) {
            double x = super.make(s) % 2.0;
            return x > 1.0 ? 2.0 - x : x < -1.0 ? -2.0 - x : x;
        }
    }

    private static final class Crush {
        final int m;

        Crush(double amount) {
            m = Math.max((int) amount, 1);
        }

        double make(double s) {
            return (double) (long) (s * m) / m;
        }
    }

    private static final Class<?>[] KINDS = {Gain.class, Fold.class, Crush.class};

    private final float[][] tracks = new float[6][];
    private final double[][] curves = new double[6][];
    private final Object[] effects = new Object[6];
    private final int[] rackKinds = {-1, -1, -1};
    private final Object[][] racks = new Object[3][3];
    private final int[][] heads = new int[4][];
    private final double[] rates = new double[4];
    private final double[] places = new double[4];
    private final long[] steps = new long[4];
    private final float[] mix = new float[8];
    private int failed;
    private long clock;
    private long told;

    private static boolean in(int x, int low, int high) {
        return low <= x && x <= high;
    }

    private static boolean finite(boolean wide, long bits) {
        return wide ? Double.isFinite(Double.longBitsToDouble(bits)) : Float.isFinite(Float.intBitsToFloat((int) bits));
    }

    private static float held(double x) {
        float f = (float) x;
        return Float.isInfinite(f) ? Math.copySign(Float.MAX_VALUE, f) : f;
    }

    private static float made(Object effect, double s) {
        return held(effect instanceof Gain ? ((Gain) effect).make(s) : ((Crush) effect).make(s));
    }

    private int size(boolean curve, int k) {
        if (curve) {
            return curves[k] == null ? -1 : curves[k].length;
        }
        return tracks[k] == null ? -1 : tracks[k].length;
    }

    private int reach(boolean curve, int k, int i) {
        int size = size(curve, k);
        return size < 0 ? -11 : in(i, 0, size - 1) ? 1 : -12;
    }

    private int tell(long what) {
        told = what;
        return 1;
    }

    int row(boolean curve, int k, int n) {
        if (!in(k, 0, 5) || !in(n, 0, 16)) {
            return -1;
        }
        if (curve) {
            curves[k] = new double[n];
        } else {
            tracks[k] = new float[n];
        }
        return 1;
    }

    int share(boolean curve, int from, int to) {
        if (!in(from, 0, 5) || !in(to, 0, 5)) {
            return -1;
        }
        if (curve) {
            curves[to] = curves[from];
        } else {
            tracks[to] = tracks[from];
        }
        return size(curve, to) < 0 ? 0 : 1;
    }

    int drop(boolean curve, int k) {
        if (!in(k, 0, 5)) {
            return -1;
        }
        int had = size(curve, k) < 0 ? 0 : 1;
        if (curve) {
            curves[k] = null;
        } else {
            tracks[k] = null;
        }
        return had;
    }

    int set(boolean curve, int k, int i, long bits) {
        if (!in(k, 0, 5) || !finite(curve, bits)) {
            return -1;
        }
        if (reach(curve, k, i) != 1) {
            return reach(curve, k, i);
        }
        if (curve) {
            curves[k][i] = Double.longBitsToDouble(bits);
        } else {
            tracks[k][i] = Float.intBitsToFloat((int) bits);
        }
        return 1;
    }

    int get(boolean curve, int k, int i) {
        if (!in(k, 0, 5)) {
            return -1;
        }
        if (reach(curve, k, i) != 1) {
            return reach(curve, k, i);
        }
        return tell(curve ? Double.doubleToLongBits(curves[k][i]) : Float.floatToIntBits(tracks[k][i]));
    }

    int wrap(boolean curve, int k, int i, int j) {
        if (!in(k, 0, 5)) {
            return -1;
        }
        int reached = Math.min(reach(curve, k, i), reach(curve, k, j));
        if (reached != 1) {
            return reached;
        }
        if ((curve ? curves[k][j] : tracks[k][j]) == 0) {
            return -15;
        }
        if (curve) {
            curves[k][i] %= curves[k][j];
        } else {
            tracks[k][i] %= tracks[k][j];
        }
        return 1;
    }

    int effect(int k, int kind, long amount) {
        double a = Double.longBitsToDouble(amount);
        if (!in(k, 0, 5) || !in(kind, 0, 2) || !(Math.abs(a) <= 1000000.0)) {
            return -1;
        }
        effects[k] = kind == 0 ? new Gain(a) : kind == 1 ? new Fold(a) : new Crush(a);
        return 1;
    }

    int make(int k, long bits) {
        if (!in(k, 0, 5) || !finite(false, bits)) {
            return -1;
        }
        if (effects[k] == null) {
            return -11;
        }
        return tell(Float.floatToIntBits(made(effects[k], Float.intBitsToFloat((int) bits))));
    }

    int rack(int r, int kind) {
        if (!in(r, 0, 2) || !in(kind, 0, 2)) {
            return -1;
        }
        rackKinds[r] = kind;
        racks[r] = new Object[3];
        return 1;
    }

    int hang(int r, int i, int k) {
        if (!in(r, 0, 2) || !in(k, 0, 5)) {
            return -1;
        }
        if (rackKinds[r] < 0) {
            return -11;
        }
        if (!in(i, 0, 2)) {
            return -12;
        }
        if (effects[k] != null && !KINDS[rackKinds[r]].isInstance(effects[k])) {
            return -14;
        }
        racks[r][i] = effects[k];
        return 1;
    }

    int take(int r, int i, int kind, int k) {
        if (!in(r, 0, 2) || !in(kind, 0, 2) || !in(k, 0, 5)) {
            return -1;
        }
        if (rackKinds[r] < 0) {
            return -11;
        }
        if (!in(i, 0, 2)) {
            return -12;
        }
        if (racks[r][i] != null && !KINDS[kind].isInstance(racks[r][i])) {
            return -13;
        }
        effects[k] = racks[r][i];
        return effects[k] == null ? 0 : 1;
    }

    int head(int h, int track, int curve, int rack, long rate) {
        double by = Double.longBitsToDouble(rate);
        if (!in(h, 0, 3) || !in(track, 0, 5) || !in(curve, -1, 5) || !in(rack, -1, 2) || !(Math.abs(by) <= 64.0)) {
            return -1;
        }
        heads[h] = new int[] {track, curve, rack};
        rates[h] = by;
        places[h] = 0.0;
        steps[h] = 0L;
        return 1;
    }

    int play(int h, int n) {
        if (!in(h, 0, 3) || heads[h] == null || !in(n, 0, 64)) {
            return -1;
        }
        failed = 0;
        int done = 0;
        while (done < n && failed == 0) {
            failed = step(h);
            done += failed == 0 ? 1 : 0;
        }
        return done;
    }

    private int step(int h) {
        int track = heads[h][0];
        int curve = heads[h][1];
        int rack = heads[h][2];
        int i = (int) places[h];
        if (reach(false, track, i) != 1) {
            return reach(false, track, i);
        }
        float v = tracks[track][i];
        if (curve >= 0) {
            if (reach(true, curve, 0) != 1) {
                return reach(true, curve, 0);
            }
            v = held(v * curves[curve][(int) (steps[h] % curves[curve].length)]);
        }
        if (rack >= 0) {
            for (Object effect : racks[rack]) {
                if (effect == null) {
                    return -11;
                }
                v = made(effect, v);
            }
        }
        int m = Math.floorMod(steps[h], 8);
        mix[m] = held((double) mix[m] + (double) v);
        int items = tracks[track].length;
        double place = (places[h] + rates[h]) % items;
        if (place < 0.0) {
            place += items;
        }
        places[h] = place < items ? place : 0.0;
        steps[h]++;
        return 0;
    }

    int failed() {
        return failed;
    }

    int mix(int i, int how) {
        if (!in(i, 0, 7) || !in(how, 0, 3)) {
            return -1;
        }
        int loud = (int) (mix[i] * 32767.0);
        return tell(how == 0 ? Float.floatToIntBits(mix[i]) : how == 1 ? loud : how == 2 ? (short) loud : (long) mix[i]);
    }

    int hush() {
        java.util.Arrays.fill(mix, 0.0f);
        return 1;
    }

    int at(int h, int what) {
        if (!in(h, 0, 3) || heads[h] == null || !in(what, 0, 1)) {
            return -1;
        }
        return tell(what == 0 ? Double.doubleToLongBits(places[h]) : steps[h]);
    }

    int clock(long n, int how) {
        if (!in(how, 0, 5)) {
            return -1;
        }
        clock += n;
        long[] tellings = {
            clock, Float.floatToIntBits((float) clock), Double.doubleToLongBits((double) clock),
            (long) (float) clock, (long) (double) clock, (int) (float) clock
        };
        return tell(tellings[how]);
    }

    long told() {
        return told;
    }
}
