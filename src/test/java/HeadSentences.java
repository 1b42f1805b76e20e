/** Promises 13 to 15 and 18: head, play, failed, at. */
final class HeadSentences {
    private static final String HEAD = "Promise 13: head";
    private static final String PLAY = "Promise 14: play";
    private static final String FAILED = "Promise 15: failed";
    private static final String AT = "Promise 18: at";

    private final Sentences document;

    HeadSentences(Sentences document) {
        this.document = document;
    }

    void test() {
        document.test(HEAD, "A HEAD is set,", this::headIsSet);
        document.test(HEAD, "its PLACE and STEPS 0: 1.", this::headBeginsAnew);
        document.test(HEAD, "BAD: HEAD,", this::headIsBad);
        document.test(HEAD, "TRACK,", this::trackIsBad);
        document.test(HEAD, "CURVE and RACK (-1, too),", this::curveAndRackAreBad);
        document.test(HEAD, "RATE (BITS).", this::rateIsBad);

        document.test(PLAY, "A HEAD does n STEPS (0 .. 64),", this::playDoesItsSteps);
        document.test(PLAY, "up to a FAILURE: how many.", this::playEndsAtAFailure);
        document.test(PLAY, "BAD:", this::playIsBad);
        document.test(PLAY, "also a HEAD that was not set.", this::playOfAHeadNotSet);

        document.test(FAILED, "-10 less the FAILURE that ended the latest play()", this::failedIsOfTheLatest);
        document.test(FAILED, "that was not BAD", this::failedOverlooksWhatIsBad);
        document.test(FAILED, "(0: none did).", this::failedIsZero);

        document.test(AT, "Of a HEAD TOLD: what = 0 PLACE (BITS),", this::atTellsThePlace);
        document.test(AT, "1 STEPS: 1.", this::atTellsTheSteps);
        document.test(AT, "BAD:", this::atIsBad);
        document.test(AT, "also one that was not set.", this::atOfAHeadNotSet);
    }

    /** A desk with a track 0, and a head 0 that has played a step of it. */
    private Desk playing(double rate) {
        Desk desk = document.desk();
        desk.track(0, 1.0, 2.0, 4.0);
        desk.head(0, 0, -1, -1, rate);
        desk.plays(0, 1);
        return desk;
    }

    private void headIsSet() {
        Desk desk = playing(1.0);
        desk.curve(5, 3.0);
        desk.effect(0, Told.GAIN, 5.0);
        desk.rackOf(2, Told.GAIN, 0, 0, 0);
        desk.share(false, 0, 5, 1);
        desk.hush();
        desk.head(3, 5, 5, 2, 2.0);
        desk.plays(3, 2);
        desk.mixIs(375.0, 1500.0);
        // Nothing need be there for it, and an earlier setting is gone.
        desk.head(3, 4, 4, 1, 2.0);
        desk.stops(3, 1, 0, Told.MISSING);
        desk.isAt(0, 1.0, 1L);
    }

    private void headBeginsAnew() {
        for (int h = 0; h <= 3; h++) {
            Desk desk = playing(1.25);
            desk.head(h, 0, -1, -1, 1.25);
            desk.isAt(h, 0.0, 0L);
            desk.plays(h, 2);
            desk.isAt(h, 2.5, 2L);
            desk.head(h, 0, -1, -1, 0.5);
            desk.isAt(h, 0.0, 0L);
            desk.plays(h, 1);
            desk.isAt(h, 0.5, 1L);
        }
    }

    private void headIsBad() {
        Desk desk = playing(1.5);
        for (int h : Told.beside(0, 3)) {
            desk.head(h, 0, -1, -1, Told.d(1.0), Told.BAD);
        }
        desk.isAt(0, 1.5, 1L);
        desk.refusesAt(3, 0, Told.BAD);
    }

    private void trackIsBad() {
        Desk desk = playing(1.5);
        for (int track : Told.beside(0, 5)) {
            desk.head(0, track, -1, -1, Told.d(1.0), Told.BAD);
            desk.head(1, track, -1, -1, Told.d(1.0), Told.BAD);
        }
        desk.isAt(0, 1.5, 1L);
        desk.refusesAt(1, 0, Told.BAD);
        desk.head(1, 5, -1, -1, 1.0);
    }

    private void curveAndRackAreBad() {
        Desk desk = playing(1.5);
        for (int curve : Told.beside(-1, 5)) {
            desk.head(0, 0, curve, -1, Told.d(1.0), Told.BAD);
            desk.head(1, 0, curve, -1, Told.d(1.0), Told.BAD);
        }
        for (int rack : Told.beside(-1, 2)) {
            desk.head(0, 0, -1, rack, Told.d(1.0), Told.BAD);
            desk.head(1, 0, -1, rack, Told.d(1.0), Told.BAD);
        }
        desk.isAt(0, 1.5, 1L);
        desk.refusesAt(1, 0, Told.BAD);
        for (int curve = -1; curve <= 5; curve++) {
            desk.head(1, 0, curve, -1, 1.0);
        }
        for (int rack = -1; rack <= 2; rack++) {
            desk.head(1, 0, -1, rack, 1.0);
        }
    }

    private void rateIsBad() {
        Desk desk = playing(1.5);
        double[] rates = {Math.nextUp(64.0), Math.nextDown(-64.0), 65.0, -65.0, Double.MAX_VALUE, -Double.MAX_VALUE};
        for (double rate : rates) {
            desk.head(0, 0, -1, -1, Told.d(rate), Told.BAD);
        }
        for (long bits : Told.badBits(true)) {
            desk.head(0, 0, -1, -1, bits, Told.BAD);
            desk.head(1, 0, -1, -1, bits, Told.BAD);
        }
        desk.isAt(0, 1.5, 1L);
        desk.refusesAt(1, 0, Told.BAD);
        for (double rate : new double[] {64.0, -64.0, 0.0, -0.0, Double.MIN_VALUE, -Double.MIN_VALUE}) {
            desk.head(1, 0, -1, -1, rate);
        }
    }

    private void playDoesItsSteps() {
        Desk desk = document.desk();
        desk.track(0, 0.5);
        desk.head(2, 0, -1, -1, 0.0);
        desk.plays(2, 0);
        desk.isAt(2, 0.0, 0L);
        desk.mixIs();
        desk.plays(2, 1);
        desk.plays(2, 63);
        desk.plays(2, 64);
        desk.isAt(2, 0.0, 128L);
        desk.mixIs(8.0, 8.0, 8.0, 8.0, 8.0, 8.0, 8.0, 8.0);
    }

    private void playEndsAtAFailure() {
        Desk desk = playing(1.0);
        desk.row(false, 0, 1, 1);
        desk.play(0, 64, 0);
        desk.play(0, 1, 0);
        desk.play(0, 0, 0);
        desk.isAt(0, 1.0, 1L);
        desk.row(false, 0, 2, 1);
        desk.play(0, 64, 64);
        desk.isAt(0, 1.0, 65L);
    }

    private void playIsBad() {
        Desk desk = playing(1.0);
        for (int n : Told.beside(0, 64)) {
            desk.play(0, n, Told.BAD);
        }
        for (int h : Told.beside(0, 3)) {
            desk.play(h, 0, Told.BAD);
            desk.play(h, 1, Told.BAD);
        }
        desk.isAt(0, 1.0, 1L);
        desk.mixIs(1.0);
    }

    private void playOfAHeadNotSet() {
        Desk desk = playing(1.0);
        for (int h = 1; h <= 3; h++) {
            desk.play(h, 0, Told.BAD);
            desk.play(h, 1, Told.BAD);
            desk.play(h, 65, Told.BAD);
            desk.head(h, 6, -1, -1, 0L, Told.BAD);
            desk.play(h, 1, Told.BAD);
            desk.head(h, 0, -1, -1, 0.0);
            desk.plays(h, 1);
        }
    }

    private void failedIsOfTheLatest() {
        Desk desk = playing(1.0);
        desk.head(1, 5, -1, -1, 1.0);
        desk.play(1, 1, 0);
        desk.failed(Told.MISSING);
        desk.failed(Told.MISSING);
        // Not of other calls that fail, nor of those that do not.
        desk.refusesGet(false, 0, 3, Told.OUTSIDE);
        desk.set(false, 0, 3, 0L, Told.OUTSIDE);
        desk.wrap(false, 0, 3, 0, Told.OUTSIDE);
        desk.row(false, 5, 0, 1);
        desk.failed(Told.MISSING);
        desk.play(1, 1, 0);
        desk.failed(Told.OUTSIDE);
        desk.refusesGet(false, 4, 0, Told.MISSING);
        desk.refusesMake(0, 0L, Told.MISSING);
        desk.hang(0, 0, 0, Told.MISSING);
        desk.take(0, 0, 0, 0, Told.MISSING);
        desk.hush();
        desk.head(1, 0, -1, -1, 1.0);
        desk.failed(Told.OUTSIDE);
    }

    private void failedOverlooksWhatIsBad() {
        Desk desk = playing(1.0);
        desk.play(0, 65, Told.BAD);
        desk.play(3, 1, Told.BAD);
        desk.failed(0);
        desk.head(1, 5, -1, -1, 1.0);
        desk.play(1, 1, 0);
        for (int n : Told.beside(0, 64)) {
            desk.play(0, n, Told.BAD);
            desk.failed(Told.MISSING);
        }
        for (int h : new int[] {-1, 2, 3, 4}) {
            desk.play(h, 1, Told.BAD);
            desk.failed(Told.MISSING);
        }
    }

    private void failedIsZero() {
        Desk desk = document.desk();
        desk.failed(0);
        desk.head(0, 0, -1, -1, 1.0);
        desk.play(0, 0, 0);
        desk.failed(0);
        desk.play(0, 1, 0);
        desk.failed(Told.MISSING);
        // No step, no failure.
        desk.play(0, 0, 0);
        desk.failed(0);
        desk.play(0, 1, 0);
        desk.failed(Told.MISSING);
        desk.track(0, 1.0);
        desk.play(0, 64, 64);
        desk.failed(0);
    }

    private void atTellsThePlace() {
        Desk desk = playing(0.1);
        desk.isAt(0, 0.1, 1L);
        desk.head(3, 0, -1, -1, -3.0);
        desk.isAt(3, 0.0, 0L);
        desk.plays(3, 1);
        desk.isAt(3, -0.0, 1L);
        desk.head(3, 0, -1, -1, -0x1p-51);
        desk.plays(3, 1);
        desk.isAt(3, Math.nextDown(3.0), 1L);
        desk.head(3, 0, -1, -1, Double.MIN_VALUE);
        desk.plays(3, 1);
        desk.isAt(3, Double.MIN_VALUE, 1L);
    }

    private void atTellsTheSteps() {
        Desk desk = playing(0.1);
        for (int h = 0; h <= 3; h++) {
            desk.head(h, 0, -1, -1, 0.0);
            desk.isAt(h, 0.0, 0L);
            desk.plays(h, 60 + h);
            desk.isAt(h, 0.0, 60 + h);
            desk.plays(h, 64);
            desk.isAt(h, 0.0, 124 + h);
        }
        desk.isAt(0, 0.0, 124L);
    }

    private void atIsBad() {
        Desk desk = playing(0.5);
        desk.isAt(0, 0.5, 1L);
        for (int what : Told.beside(0, 1)) {
            desk.refusesAt(0, what, Told.BAD);
        }
        for (int h : Told.beside(0, 3)) {
            desk.refusesAt(h, 0, Told.BAD);
            desk.refusesAt(h, 1, Told.BAD);
        }
    }

    private void atOfAHeadNotSet() {
        Desk desk = playing(0.5);
        desk.isAt(0, 0.5, 1L);
        for (int h = 1; h <= 3; h++) {
            desk.refusesAt(h, 0, Told.BAD);
            desk.refusesAt(h, 1, Told.BAD);
            // Not even by a setting that is bad.
            desk.head(h, 0, -1, -1, Told.d(65.0), Told.BAD);
            desk.refusesAt(h, 0, Told.BAD);
        }
    }
}
