/** Promises 13 to 15 and 18: head, play, failed, at; and what a STEP does. */
public final class HeadsTest {
    private static final Checks CHECKS = new Checks();

    public static void main(String[] args) {
        headIsSetAnew();
        headRefusesWhatIsBad();
        playCountsItsSteps();
        playRefusesWhatIsBad();
        stepsGoThroughTheMix();
        curvesBendByTheRestOfSteps();
        racksMakeFromFirstToLast();
        trackFails();
        curveFails();
        rackFails();
        failuresComeInOrder();
        aFailureUndoesItsStep();
        failedIsOfTheLatestPlay();
        placesWrap();
        placesJustBelowZero();
        headsGoByNumber();
        atRefusesWhatIsBad();
        CHECKS.end();
    }

    /** A mixer whose track 0 has these items. */
    private static LoopMixer with(double... items) {
        LoopMixer x = new LoopMixer();
        CHECKS.due("row", x.row(false, 0, items.length), 1);
        for (int i = 0; i < items.length; i++) {
            CHECKS.due("set", x.set(false, 0, i, Told.f(items[i])), 1);
        }
        return x;
    }

    private static void heads(LoopMixer x, int h, int curve, int rack, double rate) {
        CHECKS.due("head " + h, x.head(h, 0, curve, rack, Told.d(rate)), 1);
    }

    private static void isAt(LoopMixer x, int h, double place, long steps) {
        CHECKS.tells(x, "at(" + h + ", 0)", x.at(h, 0), Told.d(place));
        CHECKS.tells(x, "at(" + h + ", 1)", x.at(h, 1), steps);
    }

    private static void mixIs(LoopMixer x, double... items) {
        for (int i = 0; i < 8; i++) {
            CHECKS.tells(x, "mix(" + i + ", 0)", x.mix(i, 0), Told.f(i < items.length ? items[i] : 0.0));
        }
    }

    private static void plays(LoopMixer x, int h, int n, int steps, int failed) {
        CHECKS.due("play(" + h + ", " + n + ")", x.play(h, n), steps);
        CHECKS.due("failed()", x.failed(), failed);
    }

    private static void headIsSetAnew() {
        LoopMixer x = with(1.0, 2.0, 3.0);
        for (int h = 0; h < 4; h++) {
            CHECKS.due("at of a head not set", x.at(h, 0), Told.BAD);
            heads(x, h, -1, -1, 1.25);
            isAt(x, h, 0.0, 0L);
            plays(x, h, 2, 2, 0);
            isAt(x, h, 2.5, 2L);
            heads(x, h, -1, -1, 0.5);
            isAt(x, h, 0.0, 0L);
            plays(x, h, 1, 1, 0);
            isAt(x, h, 0.5, 1L);
        }
    }

    private static void headRefusesWhatIsBad() {
        LoopMixer x = with(1.0, 2.0);
        heads(x, 0, -1, -1, 1.5);
        plays(x, 0, 1, 1, 0);
        long one = Told.d(1.0);
        for (int bad : new int[] {-2, 6, Integer.MIN_VALUE, Integer.MAX_VALUE}) {
            CHECKS.refuses(x, "head " + bad, () -> x.head(bad, 0, -1, -1, one), Told.BAD);
            CHECKS.refuses(x, "head of track " + bad, () -> x.head(0, bad, -1, -1, one), Told.BAD);
            CHECKS.refuses(x, "head of curve " + bad, () -> x.head(0, 0, bad, -1, one), Told.BAD);
            CHECKS.refuses(x, "head of rack " + bad, () -> x.head(0, 0, -1, bad, one), Told.BAD);
        }
        CHECKS.refuses(x, "head -1", () -> x.head(-1, 0, -1, -1, one), Told.BAD);
        CHECKS.refuses(x, "head 4", () -> x.head(4, 0, -1, -1, one), Told.BAD);
        CHECKS.refuses(x, "head of track -1", () -> x.head(0, -1, -1, -1, one), Told.BAD);
        CHECKS.refuses(x, "head of rack 3", () -> x.head(0, 0, -1, 3, one), Told.BAD);
        for (double rate : new double[] {Math.nextUp(64.0), Math.nextDown(-64.0), 1e300, -1e300}) {
            CHECKS.refuses(x, "head of rate " + rate, () -> x.head(0, 0, -1, -1, Told.d(rate)), Told.BAD);
        }
        for (long bits : Told.BAD_DOUBLES) {
            CHECKS.refuses(x, "head of bad bits", () -> x.head(0, 0, -1, -1, bits), Told.BAD);
        }
        isAt(x, 0, 1.5, 1L);
        CHECKS.due("head at the ends", x.head(3, 5, 5, 2, Told.d(64.0)), 1);
        CHECKS.due("head at the ends", x.head(3, 5, 5, 2, Told.d(-64.0)), 1);
    }

    private static void playCountsItsSteps() {
        LoopMixer x = with(0.5);
        heads(x, 2, -1, -1, 0.0);
        plays(x, 2, 0, 0, 0);
        isAt(x, 2, 0.0, 0L);
        plays(x, 2, 64, 64, 0);
        isAt(x, 2, 0.0, 64L);
        plays(x, 2, 3, 3, 0);
        isAt(x, 2, 0.0, 67L);
        mixIs(x, 4.5, 4.5, 4.5, 4.0, 4.0, 4.0, 4.0, 4.0);
    }

    private static void playRefusesWhatIsBad() {
        LoopMixer x = with(0.5);
        heads(x, 2, -1, -1, 0.25);
        for (int n : new int[] {-1, 65, Integer.MIN_VALUE, Integer.MAX_VALUE}) {
            CHECKS.refuses(x, "play of " + n, () -> x.play(2, n), Told.BAD);
        }
        for (int h : new int[] {-1, 0, 1, 3, 4, Integer.MIN_VALUE, Integer.MAX_VALUE}) {
            CHECKS.refuses(x, "play by " + h, () -> x.play(h, 1), Told.BAD);
            CHECKS.refuses(x, "play by " + h, () -> x.play(h, 0), Told.BAD);
        }
        isAt(x, 2, 0.0, 0L);
        mixIs(x);
    }

    private static void stepsGoThroughTheMix() {
        LoopMixer x = with(1.0, 20.0, 300.0);
        heads(x, 0, -1, -1, 1.0);
        plays(x, 0, 10, 10, 0);
        mixIs(x, 301.0, 21.0, 300.0, 1.0, 20.0, 300.0, 1.0, 20.0);
        isAt(x, 0, 1.0, 10L);
        LoopMixer y = with(Float.MAX_VALUE, -Float.MAX_VALUE);
        heads(y, 0, -1, -1, 1.0);
        plays(y, 0, 64, 64, 0);
        mixIs(y, Float.MAX_VALUE, -Float.MAX_VALUE, Float.MAX_VALUE, -Float.MAX_VALUE,
            Float.MAX_VALUE, -Float.MAX_VALUE, Float.MAX_VALUE, -Float.MAX_VALUE);
    }

    private static void curvesBendByTheRestOfSteps() {
        LoopMixer x = with(1.0, 10.0);
        x.row(true, 4, 3);
        x.set(true, 4, 0, Told.d(0.1));
        x.set(true, 4, 1, Told.d(-2.0));
        x.set(true, 4, 2, Told.d(1e300));
        heads(x, 1, 4, -1, 1.0);
        plays(x, 1, 6, 6, 0);
        mixIs(x, 0.1, -20.0, Float.MAX_VALUE, 1.0, -2.0, Float.MAX_VALUE);
        LoopMixer y = with(Float.MAX_VALUE, -Float.MAX_VALUE);
        y.row(true, 0, 1);
        y.set(true, 0, 0, Told.d(Double.MAX_VALUE));
        heads(y, 1, 0, -1, 1.0);
        plays(y, 1, 2, 2, 0);
        mixIs(y, Float.MAX_VALUE, -Float.MAX_VALUE);
    }

    private static void racksMakeFromFirstToLast() {
        LoopMixer x = with(0.75);
        x.effect(0, 0, Told.d(3.0));
        x.effect(1, 1, Told.d(1.0));
        x.effect(2, 0, Told.d(-4.0));
        x.rack(1, 0);
        x.hang(1, 0, 0);
        x.hang(1, 1, 1);
        x.hang(1, 2, 2);
        heads(x, 0, -1, 1, 0.0);
        plays(x, 0, 1, 1, 0);
        mixIs(x, 0.25 * -4.0);
        LoopMixer y = with(2.0);
        y.effect(0, 0, Told.d(1000000.0));
        y.effect(1, 0, Told.d(0.25));
        y.rack(0, 0);
        y.hang(0, 0, 0);
        y.hang(0, 1, 0);
        y.hang(0, 2, 1);
        y.row(true, 0, 1);
        y.set(true, 0, 0, Told.d(1e30));
        heads(y, 0, 0, 0, 0.0);
        plays(y, 0, 1, 1, 0);
        mixIs(y, Float.MAX_VALUE / 4);
    }

    private static void trackFails() {
        LoopMixer x = with(1.0, 2.0, 3.0);
        CHECKS.due("head", x.head(0, 1, -1, -1, Told.d(1.0)), 1);
        plays(x, 0, 5, 0, Told.MISSING);
        x.row(false, 1, 0);
        plays(x, 0, 5, 0, Told.OUTSIDE);
        x.row(false, 1, 4);
        plays(x, 0, 3, 3, 0);
        x.row(false, 1, 3);
        plays(x, 0, 3, 0, Told.OUTSIDE);
        isAt(x, 0, 3.0, 3L);
        x.row(false, 1, 4);
        plays(x, 0, 3, 3, 0);
        isAt(x, 0, 2.0, 6L);
        x.drop(false, 1);
        plays(x, 0, 0, 0, 0);
        plays(x, 0, 1, 0, Told.MISSING);
    }

    private static void curveFails() {
        LoopMixer x = with(1.0);
        heads(x, 0, 3, -1, 1.0);
        plays(x, 0, 2, 0, Told.MISSING);
        x.row(true, 3, 0);
        plays(x, 0, 2, 0, Told.OUTSIDE);
        x.row(true, 3, 1);
        plays(x, 0, 2, 2, 0);
        x.drop(true, 3);
        plays(x, 0, 2, 0, Told.MISSING);
        isAt(x, 0, 0.0, 2L);
    }

    private static void rackFails() {
        LoopMixer x = with(1.0);
        heads(x, 0, -1, 2, 1.0);
        plays(x, 0, 2, 0, Told.MISSING);
        x.rack(2, 2);
        x.effect(0, 2, Told.d(1.0));
        for (int i = 0; i < 3; i++) {
            plays(x, 0, 2, 0, Told.MISSING);
            x.hang(2, i, 0);
        }
        plays(x, 0, 2, 2, 0);
        x.hang(2, 1, 5);
        plays(x, 0, 2, 0, Told.MISSING);
        isAt(x, 0, 0.0, 2L);
        mixIs(x, 1.0, 1.0);
    }

    private static void failuresComeInOrder() {
        LoopMixer x = new LoopMixer();
        x.row(true, 0, 0);
        heads(x, 0, 0, 0, 1.0);
        plays(x, 0, 1, 0, Told.MISSING);
        x.row(false, 0, 1);
        plays(x, 0, 1, 0, Told.OUTSIDE);
        x.row(true, 0, 1);
        plays(x, 0, 1, 0, Told.MISSING);
        x.row(false, 0, 0);
        plays(x, 0, 1, 0, Told.OUTSIDE);
        x.drop(true, 0);
        plays(x, 0, 1, 0, Told.OUTSIDE);
    }

    private static void aFailureUndoesItsStep() {
        LoopMixer x = with(5.0);
        x.row(true, 0, 1);
        x.set(true, 0, 0, Told.d(2.0));
        x.rack(0, 0);
        x.effect(0, 0, Told.d(3.0));
        x.hang(0, 0, 0);
        x.hang(0, 1, 0);
        heads(x, 0, 0, 0, 0.5);
        plays(x, 0, 1, 0, Told.MISSING);
        mixIs(x);
        isAt(x, 0, 0.0, 0L);
    }

    private static void failedIsOfTheLatestPlay() {
        LoopMixer x = with(5.0);
        CHECKS.due("failed() at first", x.failed(), 0);
        heads(x, 0, -1, -1, 1.0);
        CHECKS.due("head of a track that is not there", x.head(1, 3, -1, -1, 0L), 1);
        plays(x, 1, 1, 0, Told.MISSING);
        CHECKS.due("play that is bad", x.play(0, 65), Told.BAD);
        CHECKS.due("play that is bad", x.play(3, 1), Told.BAD);
        CHECKS.due("failed()", x.failed(), Told.MISSING);
        CHECKS.due("get that fails", x.get(false, 0, 7), Told.OUTSIDE);
        CHECKS.due("failed()", x.failed(), Told.MISSING);
        plays(x, 1, 0, 0, 0);
        plays(x, 1, 1, 0, Told.MISSING);
        plays(x, 0, 1, 1, 0);
        CHECKS.due("play that is bad", x.play(0, -1), Told.BAD);
        CHECKS.due("failed()", x.failed(), 0);
    }

    private static void placesWrap() {
        double[] rates = {1.0, -1.0, 0.3, -0.3, 64.0, -64.0, 63.99, -63.99, 1e-20, 0.0, -0.0, 4.9e-324, 7.5, -3.0};
        for (int n = 1; n <= 16; n++) {
            for (double rate : rates) {
                LoopMixer x = with(new double[n]);
                heads(x, 0, -1, -1, rate);
                double place = 0.0;
                for (int step = 1; step <= 12; step++) {
                    plays(x, 0, 1, 1, 0);
                    place = (place + rate) % n;
                    place = place < 0.0 ? place + n : place;
                    place = place >= n ? 0.0 : place;
                    isAt(x, 0, place, step);
                }
            }
        }
        LoopMixer x = with(1.0, 2.0, 3.0);
        heads(x, 0, -1, -1, -3.0);
        plays(x, 0, 1, 1, 0);
        isAt(x, 0, -0.0, 1L);
    }

    private static void placesJustBelowZero() {
        LoopMixer x = with(1.0, 2.0, 3.0);
        heads(x, 0, -1, -1, -4.9e-324);
        plays(x, 0, 2, 2, 0);
        isAt(x, 0, 0.0, 2L);
        mixIs(x, 1.0, 1.0);
        // Halfway between two doubles, 3.0 is the even one: the very end, which is no place.
        heads(x, 0, -1, -1, -0x1p-52);
        plays(x, 0, 1, 1, 0);
        isAt(x, 0, 0.0, 1L);
        LoopMixer y = with(1.0, 2.0, 3.0);
        heads(y, 0, -1, -1, -0x1p-51);
        plays(y, 0, 2, 2, 0);
        isAt(y, 0, 3.0 - 0x1p-50, 2L);
        mixIs(y, 1.0, 3.0);
    }

    private static void headsGoByNumber() {
        LoopMixer x = with(1.0);
        x.row(true, 0, 1);
        x.set(true, 0, 0, Told.d(2.0));
        heads(x, 0, 0, -1, 0.0);
        plays(x, 0, 1, 1, 0);
        x.row(false, 1, 1);
        x.set(false, 1, 0, Told.f(10.0));
        x.share(false, 1, 0);
        x.row(true, 0, 1);
        x.set(true, 0, 0, Told.d(3.0));
        plays(x, 0, 1, 1, 0);
        mixIs(x, 2.0, 30.0);
        isAt(x, 0, 0.0, 2L);
    }

    private static void atRefusesWhatIsBad() {
        LoopMixer x = with(1.0);
        heads(x, 0, -1, -1, 1.0);
        for (int what : new int[] {-1, 2, Integer.MIN_VALUE, Integer.MAX_VALUE}) {
            CHECKS.refuses(x, "at of " + what, () -> x.at(0, what), Told.BAD);
        }
        for (int h : new int[] {-1, 1, 4, Integer.MIN_VALUE, Integer.MAX_VALUE}) {
            CHECKS.refuses(x, "at of head " + h, () -> x.at(h, 0), Told.BAD);
            CHECKS.refuses(x, "at of head " + h, () -> x.at(h, 1), Told.BAD);
        }
    }
}
