/** Loops that heads play over and over, through curves and racks of effects, into one mix. */
public final class LoopMixer {
    public static final int BAD = -1;

    private static final int LOOPS = 6;
    private static final int LONGEST = 16;
    private static final int EFFECTS = 6;
    private static final int RACKS = 3;
    private static final int HEADS = 4;
    private static final int MIXED = 8;
    private static final int MOST_STEPS = 64;
    private static final int MIX_TELLINGS = 4;
    private static final int CLOCK_TELLINGS = 6;
    private static final int GREATEST_AMOUNT = 1000000;
    private static final int GREATEST_RATE = 64;

    private static final int NONE = -1;

    private static final int NO_FAILURE = 0;
    private static final int MISSING = 1;
    private static final int OUTSIDE = 2;
    private static final int CAST = 3;
    private static final int STORE = 4;
    private static final int REST_BY_ZERO = 5;

    private final Numbers numbers = new Numbers();
    // A track's floats stand as doubles of the same worth: a rest of floats, told as
    // a double, is the same number, so tracks and curves can share all their code.
    private final double[][] tracks = new double[LOOPS][];
    private final double[][] curves = new double[LOOPS][];
    private final Effect[] effects = new Effect[EFFECTS];
    private final Rack[] racks = new Rack[RACKS];
    private final Head[] heads = new Head[HEADS];
    private final float[] mixed = new float[MIXED];
    private int latestFailure = NO_FAILURE;
    private long time = 0L;
    private long latestTold = 0L;

    public LoopMixer() {
    }

    public int row(boolean curve, int k, int n) {
        if (!isBelow(k, LOOPS) || !isBelow(n, LONGEST + 1)) {
            return BAD;
        }
        rowsOf(curve)[k] = new double[n];
        return 1;
    }

    public int share(boolean curve, int from, int to) {
        if (!isBelow(from, LOOPS) || !isBelow(to, LOOPS)) {
            return BAD;
        }
        double[][] rows = rowsOf(curve);
        rows[to] = rows[from];
        return rows[to] != null ? 1 : 0;
    }

    public int drop(boolean curve, int k) {
        if (!isBelow(k, LOOPS)) {
            return BAD;
        }
        double[][] rows = rowsOf(curve);
        boolean had = rows[k] != null;
        rows[k] = null;
        return had ? 1 : 0;
    }

    public int set(boolean curve, int k, int i, long bits) {
        if (!isBelow(k, LOOPS) || !(curve ? Numbers.isDouble(bits) : Numbers.isFloat(bits))) {
            return BAD;
        }
        double[] items = rowsOf(curve)[k];
        if (items == null) {
            return answerFor(MISSING);
        }
        if (!isBelow(i, items.length)) {
            return answerFor(OUTSIDE);
        }
        items[i] = curve ? numbers.doubleOf(bits) : (double) numbers.floatOf(bits);
        return 1;
    }

    public int get(boolean curve, int k, int i) {
        if (!isBelow(k, LOOPS)) {
            return BAD;
        }
        double[] items = rowsOf(curve)[k];
        if (items == null) {
            return answerFor(MISSING);
        }
        if (!isBelow(i, items.length)) {
            return answerFor(OUTSIDE);
        }
        return tell(curve ? numbers.bitsOfDouble(items[i]) : numbers.bitsOfFloat((float) items[i]));
    }

    public int wrap(boolean curve, int k, int i, int j) {
        if (!isBelow(k, LOOPS)) {
            return BAD;
        }
        double[] items = rowsOf(curve)[k];
        if (items == null) {
            return answerFor(MISSING);
        }
        if (!isBelow(i, items.length) || !isBelow(j, items.length)) {
            return answerFor(OUTSIDE);
        }
        if (items[j] == 0.0) {
            return answerFor(REST_BY_ZERO);
        }
        items[i] = Numbers.rest(items[i], items[j]);
        return 1;
    }

    public int effect(int k, int kind, long amount) {
        if (!isBelow(k, EFFECTS) || !isBelow(kind, Effect.KINDS) || !Numbers.isDouble(amount)) {
            return BAD;
        }
        double value = numbers.doubleOf(amount);
        if (!isWithin(value, GREATEST_AMOUNT)) {
            return BAD;
        }
        effects[k] = new Effect(kind, value);
        return 1;
    }

    public int make(int k, long bits) {
        if (!isBelow(k, EFFECTS) || !Numbers.isFloat(bits)) {
            return BAD;
        }
        Effect effect = effects[k];
        if (effect == null) {
            return answerFor(MISSING);
        }
        float made = effect.madeOf((double) numbers.floatOf(bits));
        return tell(numbers.bitsOfFloat(made));
    }

    public int rack(int r, int kind) {
        if (!isBelow(r, RACKS) || !isBelow(kind, Effect.KINDS)) {
            return BAD;
        }
        racks[r] = new Rack(kind);
        return 1;
    }

    public int hang(int r, int i, int k) {
        if (!isBelow(r, RACKS) || !isBelow(k, EFFECTS)) {
            return BAD;
        }
        Rack rack = racks[r];
        if (rack == null) {
            return answerFor(MISSING);
        }
        if (!isBelow(i, Rack.PLACES)) {
            return answerFor(OUTSIDE);
        }
        Effect effect = effects[k];
        if (effect != null && !effect.isOf(rack.kind)) {
            return answerFor(STORE);
        }
        rack.places[i] = effect;
        return 1;
    }

    public int take(int r, int i, int kind, int k) {
        if (!isBelow(r, RACKS) || !isBelow(kind, Effect.KINDS) || !isBelow(k, EFFECTS)) {
            return BAD;
        }
        Rack rack = racks[r];
        if (rack == null) {
            return answerFor(MISSING);
        }
        if (!isBelow(i, Rack.PLACES)) {
            return answerFor(OUTSIDE);
        }
        Effect effect = rack.places[i];
        if (effect != null && !effect.isOf(kind)) {
            return answerFor(CAST);
        }
        effects[k] = effect;
        return effect != null ? 1 : 0;
    }

    public int head(int h, int track, int curve, int rack, long rate) {
        if (!isBelow(h, HEADS) || !isBelow(track, LOOPS) || !Numbers.isDouble(rate)) {
            return BAD;
        }
        if (!isBelowOrNone(curve, LOOPS) || !isBelowOrNone(rack, RACKS)) {
            return BAD;
        }
        double value = numbers.doubleOf(rate);
        if (!isWithin(value, GREATEST_RATE)) {
            return BAD;
        }
        heads[h] = new Head(track, curve, rack, value);
        return 1;
    }

    public int play(int h, int n) {
        if (!isSetHead(h) || !isBelow(n, MOST_STEPS + 1)) {
            return BAD;
        }
        latestFailure = NO_FAILURE;
        for (int done = 0; done < n; done++) {
            latestFailure = step(heads[h]);
            if (latestFailure != NO_FAILURE) {
                return done;
            }
        }
        return n;
    }

    public int failed() {
        return latestFailure == NO_FAILURE ? 0 : answerFor(latestFailure);
    }

    public int mix(int i, int how) {
        if (!isBelow(i, MIXED) || !isBelow(how, MIX_TELLINGS)) {
            return BAD;
        }
        float item = mixed[i];
        int loud = (int) (item * 32767.0);
        switch (how) {
            case 0:
                return tell(numbers.bitsOfFloat(item));
            case 1:
                return tell(loud);
            case 2:
                return tell((short) loud);
            default:
                return tell((long) item);
        }
    }

    public int hush() {
        for (int i = 0; i < MIXED; i++) {
            mixed[i] = 0.0f;
        }
        return 1;
    }

    public int at(int h, int what) {
        if (!isSetHead(h) || !isBelow(what, 2)) {
            return BAD;
        }
        return tell(what == 0 ? numbers.bitsOfDouble(heads[h].place) : heads[h].steps);
    }

    public int clock(long n, int how) {
        if (!isBelow(how, CLOCK_TELLINGS)) {
            return BAD;
        }
        time += n;
        switch (how) {
            case 0:
                return tell(time);
            case 1:
                return tell(numbers.bitsOfFloat((float) time));
            case 2:
                return tell(numbers.bitsOfDouble((double) time));
            case 3:
                return tell((long) (float) time);
            case 4:
                return tell((long) (double) time);
            default:
                return tell((int) (float) time);
        }
    }

    public long told() {
        return latestTold;
    }

    private static boolean isBelow(int number, int bound) {
        return number >= 0 && number < bound;
    }

    private static boolean isBelowOrNone(int number, int bound) {
        return number == NONE || isBelow(number, bound);
    }

    private static boolean isWithin(double value, int greatest) {
        return value >= -greatest && value <= greatest;
    }

    private static int answerFor(int failure) {
        return -10 - failure;
    }

    private int tell(long what) {
        latestTold = what;
        return 1;
    }

    private double[][] rowsOf(boolean curve) {
        return curve ? curves : tracks;
    }

    private boolean isSetHead(int h) {
        return isBelow(h, HEADS) && heads[h] != null;
    }

    /** Answers the failure that ended the step; nothing is changed before the last of them is ruled out. */
    private int step(Head head) {
        double[] track = tracks[head.track];
        if (track == null) {
            return MISSING;
        }
        int i = (int) head.place;
        if (!isBelow(i, track.length)) {
            return OUTSIDE;
        }
        double v = track[i];
        if (head.curve != NONE) {
            double[] curve = curves[head.curve];
            if (curve == null) {
                return MISSING;
            }
            if (curve.length == 0) {
                return OUTSIDE;
            }
            v = Numbers.held(v * curve[(int) (head.steps % curve.length)]);
        }
        if (head.rack != NONE) {
            Rack rack = racks[head.rack];
            if (rack == null || rack.hasBarePlace()) {
                return MISSING;
            }
            v = rack.madeOf(v);
        }
        addToMix((int) (head.steps % MIXED), v);
        head.moveOn(track.length);
        return NO_FAILURE;
    }

    private void addToMix(int i, double v) {
        mixed[i] = Numbers.held((double) mixed[i] + v);
    }

    /** What one effect does to a sample. It never changes, so racks and effects can hold the same one. */
    private static final class Effect {
        static final int KINDS = 3;
        static final int GAIN = 0;
        static final int FOLD = 1;

        final int kind;
        final double amount;

        Effect(int kind, double amount) {
            this.kind = kind;
            this.amount = amount;
        }

        boolean isOf(int wanted) {
            return kind == wanted || wanted == GAIN && kind == FOLD;
        }

        float madeOf(double s) {
            switch (kind) {
                case GAIN:
                    return Numbers.held(s * amount);
                case FOLD:
                    return Numbers.held(folded(Numbers.rest(s * amount, 2.0)));
                default:
                    return Numbers.held(crushed(s));
            }
        }

        private static double folded(double rest) {
            if (rest > 1.0) {
                return 2.0 - rest;
            }
            return rest < -1.0 ? -2.0 - rest : rest;
        }

        private double crushed(double s) {
            int cut = (int) amount;
            double levels = cut < 1 ? 1.0 : (double) cut;
            return (double) (long) (s * levels) / levels;
        }
    }

    /** Three places for effects of one kind. */
    private static final class Rack {
        static final int PLACES = 3;

        final int kind;
        final Effect[] places = new Effect[PLACES];

        Rack(int kind) {
            this.kind = kind;
        }

        boolean hasBarePlace() {
            for (int i = 0; i < PLACES; i++) {
                if (places[i] == null) {
                    return true;
                }
            }
            return false;
        }

        double madeOf(double sample) {
            double v = sample;
            for (int i = 0; i < PLACES; i++) {
                Effect effect = places[i];
                if (effect != null) {
                    v = effect.madeOf(v);
                }
            }
            return v;
        }
    }

    /** What plays a track: by number, so that what is put there later is played. */
    private static final class Head {
        final int track;
        final int curve;
        final int rack;
        final double rate;
        double place = 0.0;
        long steps = 0L;

        Head(int track, int curve, int rack, double rate) {
            this.track = track;
            this.curve = curve;
            this.rack = rack;
            this.rate = rate;
        }

        void moveOn(int items) {
            double next = Numbers.rest(place + rate, (double) items);
            if (next < 0.0) {
                next += items;
                // A rest just below zero can round up to the very end, which is no place.
                if (next >= items) {
                    next = 0.0;
                }
            }
            place = next;
            steps++;
        }
    }

    /**
     * Bits, rests and held floats, by plain arithmetic: the language leaves neither the
     * library's bit functions nor % on doubles. A format is told by its lowest exponent
     * (of normal numbers, without its sign) and by the width of its fraction.
     */
    private static final class Numbers {
        private static final int DOUBLE_LOWEST = 1022;
        private static final int DOUBLE_WIDTH = 52;
        private static final long DOUBLE_SIGN = 1L << 63;
        private static final long DOUBLE_ENDLESS = 0x7FF0000000000000L;
        private static final int FLOAT_LOWEST = 126;
        private static final int FLOAT_WIDTH = 23;
        private static final long FLOAT_SIGN = 1L << 31;
        private static final long FLOAT_ENDLESS = 0x7F800000L;
        // 2 to the power of 1, 2, 4 .. 512: together they reach every exponent of a double.
        private static final int POWERS = 10;
        // The smallest double, doubled 2097 times, is more than half of the greatest one.
        private static final int MOST_DOUBLINGS = 2100;

        private final double[] up = new double[POWERS];
        private final double[] down = new double[POWERS];

        Numbers() {
            double power = 2.0;
            for (int i = 0; i < POWERS; i++) {
                if (i > 0) {
                    power = power * power;
                }
                up[i] = power;
                down[i] = 1.0 / power;
            }
        }

        static boolean isDouble(long bits) {
            return (bits & DOUBLE_ENDLESS) != DOUBLE_ENDLESS;
        }

        static boolean isFloat(long bits) {
            return (bits & FLOAT_ENDLESS) != FLOAT_ENDLESS;
        }

        static float held(double x) {
            double greatest = 3.4028234663852886E38;
            if (x > greatest) {
                return (float) greatest;
            }
            return x < -greatest ? (float) -greatest : (float) x;
        }

        /**
         * What Java's x % y is: exact, with the sign of x; by zero it is x. Each part that is
         * taken away is at least half of what is left, so no difference is ever rounded.
         */
        static double rest(double x, double y) {
            double least = sizeOf(y);
            double left = sizeOf(x);
            if (least == 0.0 || left < least) {
                return x;
            }
            double part = least;
            int doublings = 0;
            while (doublings < MOST_DOUBLINGS && part <= left / 2.0) {
                part *= 2.0;
                doublings++;
            }
            for (int i = 0; i <= doublings; i++) {
                if (left >= part) {
                    left -= part;
                }
                part /= 2.0;
            }
            return x < 0.0 ? -left : left;
        }

        double doubleOf(long bits) {
            double size = sizeToldBy(bits & ~DOUBLE_SIGN, DOUBLE_LOWEST, DOUBLE_WIDTH);
            return (bits & DOUBLE_SIGN) != 0L ? -size : size;
        }

        float floatOf(long bits) {
            double size = sizeToldBy(bits & (FLOAT_SIGN - 1L), FLOAT_LOWEST, FLOAT_WIDTH);
            return (float) ((bits & FLOAT_SIGN) != 0L ? -size : size);
        }

        long bitsOfDouble(double x) {
            long bits = bitsOfSize(sizeOf(x), DOUBLE_LOWEST, DOUBLE_WIDTH);
            return isSigned(x) ? bits | DOUBLE_SIGN : bits;
        }

        int bitsOfFloat(float x) {
            long bits = bitsOfSize(sizeOf((double) x), FLOAT_LOWEST, FLOAT_WIDTH);
            return (int) (isSigned((double) x) ? bits | FLOAT_SIGN : bits);
        }

        private static double sizeOf(double x) {
            return x < 0.0 ? -x : x;
        }

        /** No comparison knows -0.0 from 0.0: only what is divided by it shows its sign. */
        private static boolean isSigned(double x) {
            return x < 0.0 || x == 0.0 && 1.0 / x < 0.0;
        }

        /** A number below the normal ones has no hidden bit and the exponent of the lowest of them. */
        private double sizeToldBy(long bits, int lowest, int width) {
            long hidden = 1L << width;
            long fraction = bits & (hidden - 1L);
            int exponent = (int) (bits >>> width);
            if (exponent == 0) {
                return scaled((double) fraction, -lowest - width);
            }
            return scaled((double) (fraction + hidden), exponent - 1 - lowest - width);
        }

        /** A normal number's hidden bit adds one to its exponent, which is counted one too low for that. */
        private long bitsOfSize(double size, int lowest, int width) {
            double left = size;
            long exponent = lowest;
            if (left < 1.0) {
                left *= powerOfTwo(lowest);
                exponent = 0L;
            }
            for (int i = POWERS - 1; i >= 0; i--) {
                if (left >= up[i]) {
                    left *= down[i];
                    exponent += 1L << i;
                }
            }
            return (exponent << width) + (long) (left * powerOfTwo(width));
        }

        /** In two halves, since the lowest exponents of all are beyond a single power. */
        private double scaled(double x, int exponent) {
            int half = exponent / 2;
            return x * powerOfTwo(half) * powerOfTwo(exponent - half);
        }

        private double powerOfTwo(int exponent) {
            double[] powers = exponent < 0 ? down : up;
            int parts = Math.abs(exponent);
            double power = 1.0;
            for (int i = 0; i < POWERS; i++) {
                if ((parts >> i & 1) != 0) {
                    power *= powers[i];
                }
            }
            return power;
        }
    }
}
