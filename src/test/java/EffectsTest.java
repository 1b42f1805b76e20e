/** Promises 8 to 12: effect, make, rack, hang, take. */
public final class EffectsTest {
    private static final Checks CHECKS = new Checks();
    private static final int GAIN = 0;
    private static final int FOLD = 1;
    private static final int CRUSH = 2;

    public static void main(String[] args) {
        effectTakesItsAmounts();
        effectRefusesWhatIsBad();
        gainMakes();
        foldMakes();
        crushMakes();
        whatIsMadeIsHeld();
        makeRefuses();
        rackIsBareAndNew();
        hangKeepsToTheKind();
        hangRefuses();
        takeKeepsToTheKind();
        takeRefuses();
        whatHangsStays();
        CHECKS.end();
    }

    private static LoopMixer with(int kind, double amount) {
        LoopMixer x = new LoopMixer();
        CHECKS.due("effect", x.effect(0, kind, Told.d(amount)), 1);
        return x;
    }

    private static void makes(LoopMixer x, int k, double s, double want) {
        CHECKS.tells(x, "make of " + s, x.make(k, Told.f(s)), Told.f(want));
    }

    private static void effectTakesItsAmounts() {
        LoopMixer x = new LoopMixer();
        for (int k = 0; k < 6; k++) {
            CHECKS.due("make of none", x.make(k, 0L), Told.MISSING);
            CHECKS.due("effect", x.effect(k, k % 3, Told.d(k)), 1);
        }
        for (double amount : new double[] {1000000.0, -1000000.0, 0.0, -0.0, 4.9e-324, -0.3}) {
            CHECKS.due("effect of " + amount, x.effect(5, GAIN, Told.d(amount)), 1);
            makes(x, 5, 1.0, amount);
        }
    }

    private static void effectRefusesWhatIsBad() {
        LoopMixer x = with(GAIN, 3.0);
        for (int k : new int[] {-1, 6, Integer.MIN_VALUE, Integer.MAX_VALUE}) {
            CHECKS.refuses(x, "effect " + k, () -> x.effect(k, GAIN, 0L), Told.BAD);
        }
        for (int kind : new int[] {-1, 3, Integer.MIN_VALUE, Integer.MAX_VALUE}) {
            CHECKS.refuses(x, "effect of kind " + kind, () -> x.effect(0, kind, 0L), Told.BAD);
        }
        for (double amount : new double[] {Math.nextUp(1000000.0), Math.nextDown(-1000000.0), 1e300, -1e300}) {
            CHECKS.refuses(x, "effect of " + amount, () -> x.effect(0, GAIN, Told.d(amount)), Told.BAD);
        }
        for (long bits : Told.BAD_DOUBLES) {
            CHECKS.refuses(x, "effect of bad bits", () -> x.effect(0, GAIN, bits), Told.BAD);
        }
        makes(x, 0, 2.0, 6.0);
    }

    private static void gainMakes() {
        LoopMixer x = with(GAIN, -2.5);
        makes(x, 0, 0.5, -1.25);
        makes(x, 0, 0.0, -0.0);
        makes(x, 0, -0.0, 0.0);
        makes(x, 0, 1.4e-45, -4.2e-45 + 1.4e-45);
        LoopMixer y = with(GAIN, 0.1);
        makes(y, 0, 0.1f, 0.1f * 0.1);
        makes(y, 0, 1.4e-45, 0.0);
        makes(y, 0, -1.4e-45, -0.0);
    }

    private static void foldMakes() {
        LoopMixer x = with(FOLD, 1.0);
        makes(x, 0, 0.25, 0.25);
        makes(x, 0, 1.0, 1.0);
        makes(x, 0, -1.0, -1.0);
        makes(x, 0, 1.25, 0.75);
        makes(x, 0, -1.25, -0.75);
        makes(x, 0, 2.0, 0.0);
        makes(x, 0, -2.0, -0.0);
        makes(x, 0, -0.0, -0.0);
        makes(x, 0, 3.5, 0.5);
        makes(x, 0, -5.75, -0.25);
        makes(x, 0, Float.MAX_VALUE, 0.0);
        makes(x, 0, -Float.MAX_VALUE, -0.0);
        // What the gain makes is not held before its rest is taken.
        LoopMixer y = with(FOLD, -3.0);
        CHECKS.tells(y, "make of -0.9", y.make(0, Told.f(-0.9f)), 1060320050L);
    }

    private static void crushMakes() {
        LoopMixer x = with(CRUSH, 4.9);
        makes(x, 0, 0.3, 0.25);
        makes(x, 0, -0.3, -0.25);
        makes(x, 0, 0.2, 0.0);
        makes(x, 0, -0.2, 0.0);
        makes(x, 0, 7.9, 7.75);
        makes(x, 0, Float.MAX_VALUE, 9223372036854775807.0 / 4.0);
        makes(x, 0, -Float.MAX_VALUE, -9223372036854775808.0 / 4.0);
        for (double amount : new double[] {1.9, 0.9, 0.0, -0.5, -7.0, -1000000.0}) {
            LoopMixer y = with(CRUSH, amount);
            makes(y, 0, 3.75, 3.0);
            makes(y, 0, -3.75, -3.0);
        }
        LoopMixer z = with(CRUSH, 3.0);
        makes(z, 0, 0.7, 2.0 / 3.0);
        LoopMixer greatest = with(CRUSH, 1000000.0);
        makes(greatest, 0, 0.1234567, 123456.0 / 1000000.0);
    }

    private static void whatIsMadeIsHeld() {
        LoopMixer x = with(GAIN, 2.0);
        makes(x, 0, Float.MAX_VALUE, Float.MAX_VALUE);
        makes(x, 0, -Float.MAX_VALUE, -Float.MAX_VALUE);
        makes(x, 0, Float.MAX_VALUE / 2, Float.MAX_VALUE);
        LoopMixer y = with(GAIN, 1.0 + 0x1p-25);
        makes(y, 0, Float.MAX_VALUE, Float.MAX_VALUE);
        // Halfway between two floats the even one is nearest.
        LoopMixer z = with(GAIN, 1.0 + 0x1p-24);
        makes(z, 0, 1.0, 1.0);
        LoopMixer odd = with(GAIN, 1.0 + 0x3p-24);
        makes(odd, 0, 1.0, 1.0 + 0x2p-23);
    }

    private static void makeRefuses() {
        LoopMixer x = with(GAIN, 1.0);
        makes(x, 0, 5.0, 5.0);
        for (int k : new int[] {-1, 6, Integer.MIN_VALUE, Integer.MAX_VALUE}) {
            CHECKS.refuses(x, "make of " + k, () -> x.make(k, 0L), Told.BAD);
        }
        for (int bits : Told.BAD_FLOATS) {
            CHECKS.refuses(x, "make of bad bits", () -> x.make(0, bits), Told.BAD);
            CHECKS.refuses(x, "make of bad bits by none", () -> x.make(1, bits), Told.BAD);
        }
        CHECKS.refuses(x, "make by none", () -> x.make(1, 0L), Told.MISSING);
        CHECKS.tells(x, "make of the lowest 32", x.make(0, 0x7FF00000_3F800000L), 0x3F800000L);
    }

    private static void rackIsBareAndNew() {
        LoopMixer x = with(GAIN, 1.0);
        for (int r = 0; r < 3; r++) {
            CHECKS.due("hang on none", x.hang(r, 0, 0), Told.MISSING);
            CHECKS.due("rack", x.rack(r, r), 1);
            for (int i = 0; i < 3; i++) {
                CHECKS.due("take from a bare place", x.take(r, i, (r + 1) % 3, 5), 0);
            }
        }
        CHECKS.due("hang", x.hang(0, 1, 0), 1);
        for (int r : new int[] {-1, 3, Integer.MIN_VALUE, Integer.MAX_VALUE}) {
            CHECKS.refuses(x, "rack " + r, () -> x.rack(r, GAIN), Told.BAD);
        }
        for (int kind : new int[] {-1, 3, Integer.MIN_VALUE, Integer.MAX_VALUE}) {
            CHECKS.refuses(x, "rack of kind " + kind, () -> x.rack(0, kind), Told.BAD);
        }
        CHECKS.due("take", x.take(0, 1, GAIN, 5), 1);
        CHECKS.due("rack anew", x.rack(0, GAIN), 1);
        CHECKS.due("take from it", x.take(0, 1, GAIN, 5), 0);
    }

    private static void hangKeepsToTheKind() {
        boolean[][] fits = {{true, true, false}, {false, true, false}, {false, false, true}};
        for (int rack = 0; rack < 3; rack++) {
            for (int kind = 0; kind < 3; kind++) {
                LoopMixer x = with(kind, 1.0);
                x.rack(2, rack);
                CHECKS.due("hang of " + kind + " on " + rack, x.hang(2, 2, 0), fits[rack][kind] ? 1 : Told.STORE);
                CHECKS.due("take", x.take(2, 2, kind, 4), fits[rack][kind] ? 1 : 0);
            }
        }
        LoopMixer x = with(GAIN, 2.0);
        x.effect(1, CRUSH, Told.d(1.0));
        x.rack(0, GAIN);
        CHECKS.due("hang", x.hang(0, 0, 0), 1);
        CHECKS.due("hang of another kind", x.hang(0, 0, 1), Told.STORE);
        CHECKS.due("take of what hung before", x.take(0, 0, GAIN, 3), 1);
        makes(x, 3, 3.0, 6.0);
        CHECKS.due("hang of none", x.hang(0, 0, 5), 1);
        CHECKS.due("take of none", x.take(0, 0, CRUSH, 3), 0);
        CHECKS.due("make by none", x.make(3, 0L), Told.MISSING);
    }

    private static void hangRefuses() {
        LoopMixer x = with(CRUSH, 1.0);
        x.rack(0, GAIN);
        for (int r : new int[] {-1, 3, Integer.MIN_VALUE, Integer.MAX_VALUE}) {
            CHECKS.refuses(x, "hang on " + r, () -> x.hang(r, 0, 0), Told.BAD);
        }
        for (int k : new int[] {-1, 6, Integer.MIN_VALUE, Integer.MAX_VALUE}) {
            CHECKS.refuses(x, "hang of " + k, () -> x.hang(0, 0, k), Told.BAD);
            CHECKS.refuses(x, "hang of " + k + " on none", () -> x.hang(1, 9, k), Told.BAD);
        }
        for (int i : new int[] {-1, 3, Integer.MIN_VALUE, Integer.MAX_VALUE}) {
            CHECKS.refuses(x, "hang in " + i, () -> x.hang(0, i, 0), Told.OUTSIDE);
            CHECKS.refuses(x, "hang of none in " + i, () -> x.hang(0, i, 1), Told.OUTSIDE);
            CHECKS.refuses(x, "hang in " + i + " on none", () -> x.hang(1, i, 0), Told.MISSING);
        }
        CHECKS.refuses(x, "hang of another kind", () -> x.hang(0, 0, 0), Told.STORE);
    }

    private static void takeKeepsToTheKind() {
        boolean[][] fits = {{true, true, false}, {false, true, false}, {false, false, true}};
        for (int kind = 0; kind < 3; kind++) {
            for (int as = 0; as < 3; as++) {
                LoopMixer x = with(kind, 3.0);
                x.effect(1, GAIN, Told.d(5.0));
                x.rack(1, kind);
                x.hang(1, 0, 0);
                CHECKS.due("take of " + kind + " as " + as, x.take(1, 0, as, 1), fits[as][kind] ? 1 : Told.CAST);
                double[] made = {0.75, 0.75, 0.0};
                makes(x, 1, 0.25, fits[as][kind] ? made[kind] : 1.25);
                CHECKS.due("take again", x.take(1, 0, kind, 2), 1);
            }
        }
        LoopMixer x = with(FOLD, 1.0);
        x.rack(0, GAIN);
        x.hang(0, 1, 0);
        CHECKS.due("take of a fold from a rack of gains", x.take(0, 1, FOLD, 3), 1);
        makes(x, 3, 1.25, 0.75);
        CHECKS.due("take of none", x.take(0, 0, FOLD, 3), 0);
        CHECKS.due("make by none", x.make(3, 0L), Told.MISSING);
    }

    private static void takeRefuses() {
        LoopMixer x = with(GAIN, 1.0);
        x.rack(0, GAIN);
        x.hang(0, 0, 0);
        for (int bad : new int[] {-1, 6, Integer.MIN_VALUE, Integer.MAX_VALUE}) {
            CHECKS.refuses(x, "take from " + bad, () -> x.take(bad, 0, GAIN, 0), Told.BAD);
            CHECKS.refuses(x, "take as " + bad, () -> x.take(0, 0, bad, 0), Told.BAD);
            CHECKS.refuses(x, "take to " + bad, () -> x.take(0, 0, GAIN, bad), Told.BAD);
            CHECKS.refuses(x, "take in " + bad, () -> x.take(0, bad, GAIN, 0), Told.OUTSIDE);
            CHECKS.refuses(x, "take in " + bad + " from none", () -> x.take(1, bad, GAIN, 0), Told.MISSING);
        }
        CHECKS.refuses(x, "take from 3", () -> x.take(3, 0, GAIN, 0), Told.BAD);
        CHECKS.refuses(x, "take as 3", () -> x.take(0, 0, 3, 0), Told.BAD);
        CHECKS.refuses(x, "take in 3", () -> x.take(0, 3, CRUSH, 0), Told.OUTSIDE);
        CHECKS.refuses(x, "take as 3 from none", () -> x.take(1, 0, 3, 0), Told.BAD);
        CHECKS.refuses(x, "take as another kind", () -> x.take(0, 0, CRUSH, 0), Told.CAST);
        makes(x, 0, 5.0, 5.0);
    }

    private static void whatHangsStays() {
        LoopMixer x = with(GAIN, 2.0);
        x.rack(0, GAIN);
        x.hang(0, 0, 0);
        x.effect(0, CRUSH, Told.d(9.0));
        CHECKS.due("take of what hung before", x.take(0, 0, GAIN, 1), 1);
        makes(x, 1, 3.0, 6.0);
        x.rack(0, CRUSH);
        makes(x, 1, 3.0, 6.0);
    }
}
