import java.util.Random;

/** All promises: long runs of calls, the same ones every time, whose answers PlainMixer gives too. */
public final class RandomRunsTest {
    private static final Checks CHECKS = new Checks();
    private static final int RUNS = 4000;
    // Each is up to three calls; with those before and after them no more than the 512 of an object.
    private static final int ROUNDS = 135;
    private static final double[] ORDINARY = {
        0.0, -0.0, 1.0, -1.0, 0.5, -0.5, 0.1, -0.3, 2.0, 3.0, -4.0, 1.5, 7.9, 16.0, -16.0, 64.0, -64.0, 65.0,
        1000000.0, -1000000.0, 1000000.1, 123.456, -9999.5, 1e-7, 4.9e-324, -1e-320, 1.4e-45, 1e-40, 1e38, -3e38, 1e300
    };

    private final Random random;

    private RandomRunsTest(long seed) {
        random = new Random(seed);
    }

    public static void main(String[] args) {
        for (int run = 0; run < RUNS; run++) {
            new RandomRunsTest(run).compare(run);
        }
        CHECKS.end();
    }

    /** Mostly from low to high - 1; now and then just outside, or anything at all. */
    private int some(int low, int high) {
        int dice = random.nextInt(60);
        if (dice == 0) {
            return random.nextInt();
        }
        if (dice == 1) {
            return random.nextBoolean() ? low - 1 : high;
        }
        return low + random.nextInt(high - low);
    }

    private long someBits(boolean wide) {
        double ordinary = ORDINARY[random.nextInt(ORDINARY.length)];
        switch (random.nextInt(8)) {
            case 0:
                return random.nextLong();
            case 1:
                return wide ? Told.d(random.nextGaussian() * 20.0) : random.nextInt();
            case 2:
                return wide ? Told.d(random.nextGaussian()) : Told.f(random.nextGaussian());
            case 3:
                return wide ? Told.d(1e6 * random.nextDouble()) : Told.f(1e6 * random.nextDouble());
            default:
                return wide ? Told.d(ordinary) : Told.f(ordinary);
        }
    }

    private void compare(int run) {
        LoopMixer x = new LoopMixer();
        PlainMixer y = new PlainMixer();
        // Calls by chance alone seldom fill a rack, so half of the runs begin with all that a head needs.
        if (run % 2 == 0) {
            prepareBoth("run " + run + ", before: ", x, y);
        }
        for (int round = 0; round < ROUNDS; round++) {
            String where = "run " + run + ", round " + round + ": ";
            callBoth(where, x, y);
            CHECKS.due(where + "told()", x.told(), y.told());
        }
        compareWhatIsLeft("run " + run + ", after: ", x, y);
    }

    private void compareWhatIsLeft(String where, LoopMixer x, PlainMixer y) {
        for (int i = 0; i < 8; i++) {
            CHECKS.due(where + "mix", x.mix(i, 0), y.mix(i, 0));
            CHECKS.due(where + "item " + i + " of the mix", x.told(), y.told());
        }
        for (int h = 0; h < 4; h++) {
            for (int what = 0; what < 2; what++) {
                CHECKS.due(where + "at", x.at(h, what), y.at(h, what));
                CHECKS.due(where + "head " + h + ", " + what, x.told(), y.told());
            }
        }
        CHECKS.due(where + "clock", x.clock(0L, 0), y.clock(0L, 0));
        CHECKS.due(where + "the clock", x.told(), y.told());
    }

    private void prepareBoth(String where, LoopMixer x, PlainMixer y) {
        for (int k = 0; k < 3; k++) {
            prepareRow(where, x, y, false, k);
            prepareRow(where, x, y, true, k);
        }
        for (int k = 0; k < 6; k++) {
            long amount = Told.d(random.nextGaussian() * (random.nextInt(4) == 0 ? 1000.0 : 2.0));
            CHECKS.due(where + "effect", x.effect(k, k % 3, amount), y.effect(k, k % 3, amount));
        }
        for (int r = 0; r < 3; r++) {
            CHECKS.due(where + "rack", x.rack(r, r), y.rack(r, r));
            for (int i = 0; i < 3; i++) {
                int k = 3 * random.nextInt(2) + (r == Told.GAIN ? random.nextInt(2) : r);
                CHECKS.due(where + "hang", x.hang(r, i, k), y.hang(r, i, k));
            }
        }
        for (int h = 0; h < 4; h++) {
            int track = random.nextInt(3);
            int curve = random.nextInt(4) - 1;
            int rack = random.nextInt(4) - 1;
            long rate = Told.d(random.nextGaussian() * 2.0);
            CHECKS.due(where + "head", x.head(h, track, curve, rack, rate), y.head(h, track, curve, rack, rate));
        }
    }

    private void prepareRow(String where, LoopMixer x, PlainMixer y, boolean curve, int k) {
        int n = 1 + random.nextInt(6);
        CHECKS.due(where + "row", x.row(curve, k, n), y.row(curve, k, n));
        for (int i = 0; i < n; i++) {
            long bits = someBits(curve);
            CHECKS.due(where + "set", x.set(curve, k, i, bits), y.set(curve, k, i, bits));
        }
    }

    private void callBoth(String where, LoopMixer x, PlainMixer y) {
        boolean curve = random.nextBoolean();
        int k = some(0, 6);
        int kind = some(0, 3);
        int which = random.nextInt(24);
        if (which < 9) {
            loopCall(where, which, x, y, curve, k);
        } else if (which < 16) {
            effectCall(where, which, x, y, k, kind);
        } else {
            headCall(where, which, x, y);
        }
    }

    private void loopCall(String where, int which, LoopMixer x, PlainMixer y, boolean curve, int k) {
        int i = random.nextInt(3) == 0 ? some(0, 17) : some(0, 5);
        int j = some(0, 4);
        int n = random.nextInt(4) == 0 ? some(0, 17) : some(3, 9);
        long bits = someBits(curve);
        switch (which) {
            case 0:
            case 1:
                CHECKS.due(where + "row", x.row(curve, k, n), y.row(curve, k, n));
                break;
            case 2:
                CHECKS.due(where + "share", x.share(curve, k, j), y.share(curve, k, j));
                break;
            case 3:
                if (random.nextInt(3) == 0) {
                    CHECKS.due(where + "drop", x.drop(curve, k), y.drop(curve, k));
                }
                break;
            case 4:
            case 5:
            case 6:
                CHECKS.due(where + "set", x.set(curve, k, i, bits), y.set(curve, k, i, bits));
                break;
            case 7:
                CHECKS.due(where + "get", x.get(curve, k, i), y.get(curve, k, i));
                break;
            default:
                CHECKS.due(where + "wrap", x.wrap(curve, k, i, j), y.wrap(curve, k, i, j));
                break;
        }
    }

    private void effectCall(String where, int which, LoopMixer x, PlainMixer y, int k, int kind) {
        int r = some(0, 3);
        int i = some(0, 3);
        long amount = someBits(true);
        long bits = someBits(false);
        switch (which) {
            case 9:
            case 10:
                CHECKS.due(where + "effect", x.effect(k, kind, amount), y.effect(k, kind, amount));
                break;
            case 11:
                CHECKS.due(where + "make", x.make(k, bits), y.make(k, bits));
                break;
            case 12:
                if (random.nextInt(4) == 0) {
                    CHECKS.due(where + "rack", x.rack(r, kind), y.rack(r, kind));
                }
                break;
            case 13:
            case 14:
                CHECKS.due(where + "hang", x.hang(r, i, k), y.hang(r, i, k));
                break;
            default:
                CHECKS.due(where + "take", x.take(r, i, kind, k), y.take(r, i, kind, k));
                break;
        }
    }

    private void headCall(String where, int which, LoopMixer x, PlainMixer y) {
        int h = some(0, 4);
        int curve = random.nextBoolean() ? -1 : some(-1, 6);
        int rack = random.nextBoolean() ? -1 : some(-1, 3);
        int track = some(0, 6);
        int n = some(0, 65);
        int how = some(0, 6);
        int i = some(0, 8);
        int tellMix = some(0, 4);
        int what = some(0, 2);
        long bits = someBits(true);
        long time = random.nextInt(4) == 0 ? random.nextLong() : random.nextInt();
        switch (which) {
            case 16:
                CHECKS.due(where + "head", x.head(h, track, curve, rack, bits), y.head(h, track, curve, rack, bits));
                break;
            case 17:
            case 18:
            case 19:
                CHECKS.due(where + "play", x.play(h, n), y.play(h, n));
                CHECKS.due(where + "failed", x.failed(), y.failed());
                break;
            case 20:
                CHECKS.due(where + "mix", x.mix(i, tellMix), y.mix(i, tellMix));
                break;
            case 21:
                if (random.nextInt(8) == 0) {
                    CHECKS.due(where + "hush", x.hush(), y.hush());
                }
                break;
            case 22:
                CHECKS.due(where + "at", x.at(h, what), y.at(h, what));
                break;
            default:
                CHECKS.due(where + "clock", x.clock(time, how), y.clock(time, how));
                break;
        }
    }
}
