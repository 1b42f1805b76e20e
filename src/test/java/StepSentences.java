/** The terms of heads, of the mix and of a step. */
final class StepSentences {
    private static final String TERMS = "Terms";

    private final Sentences document;

    StepSentences(Sentences document) {
        this.document = document;
    }

    void test() {
        document.test(TERMS, "HEADS 0 .. 3 have a TRACK,", this::fourHeads);
        document.test(TERMS, "a CURVE, a RACK (by number;", this::byNumber);
        document.test(TERMS, "-1 none of the latter two),", this::noneOfTheLatterTwo);
        document.test(TERMS, "a RATE (a double of -64 to 64),", this::ratesHaveEnds);
        document.test(TERMS, "a PLACE (a double, 0.0 at first),", this::placeIsADouble);
        document.test(TERMS, "and STEPS (a long, 0).", this::stepsAreCounted);
        document.test(TERMS, "THE MIX has 8 floats (0.0).", this::mixHasEight);

        document.test(TERMS, "A STEP of a HEAD: (1) v is item i of its TRACK, i being PLACE cut to an int", this::itemOfATrack);
        document.test(TERMS, "(MISSING, OUTSIDE).", this::trackFails);
        document.test(TERMS, "(2) With a CURVE: c is its item j", this::itemOfACurve);
        document.test(TERMS, "(MISSING, OUTSIDE, if it has no items),", this::curveFails);
        document.test(TERMS, "j being the rest of STEPS by how many it has;", this::curveBeginsAgain);
        document.test(TERMS, "v becomes v times c, as doubles, HELD.", this::timesIsHeld);
        document.test(TERMS, "(3) With a RACK: for each place of it from 0 on: v becomes what the EFFECT there MAKES of it",
            this::rackMakesInOrder);
        document.test(TERMS, "(MISSING: there is none in it,", this::rackWithABarePlaceFails);
        document.test(TERMS, "or no RACK).", this::noRackFails);
        document.test(TERMS, "(4) Item STEPS modulo 8 of THE MIX", this::mixTurnsRound);
        document.test(TERMS, "becomes it and v, as doubles, HELD.", this::sumIsHeld);
        document.test(TERMS, "(5) PLACE becomes the rest of PLACE and RATE by how many items the TRACK has (doubles);",
            this::placeIsARest);
        document.test(TERMS, "if that is below 0.0, that many more,", this::placeBelowZero);
        document.test(TERMS, "and if it is not below that many then, 0.0.", this::placeAtTheEnd);
        document.test(TERMS, "STEPS are 1 more.", this::stepsGrow);
        document.test(TERMS, "A FAILURE ends it: nothing of that STEP is done.", this::failureLeavesAll);
    }

    /** A desk with a track 0. */
    private Desk with(double... items) {
        Desk desk = document.desk();
        desk.track(0, items);
        return desk;
    }

    private void fourHeads() {
        Desk desk = document.desk();
        for (int h = 0; h <= 3; h++) {
            desk.track(h + 2, h + 10.0, h + 20.0);
            desk.head(h, h + 2, -1, -1, 1.0);
        }
        for (int h = 3; h >= 0; h--) {
            desk.hush();
            desk.plays(h, 2);
            desk.mixIs(h + 10.0, h + 20.0);
        }
        for (int h : Told.beside(0, 3)) {
            desk.head(h, 2, -1, -1, Told.d(1.0), Told.BAD);
            desk.play(h, 1, Told.BAD);
        }
    }

    private void byNumber() {
        Desk desk = with(1.0);
        desk.curve(5, 2.0);
        desk.effect(0, Told.GAIN, 3.0);
        desk.effect(1, Told.GAIN, 1.0);
        desk.rackOf(2, Told.GAIN, 0, 1, 1);
        desk.head(0, 0, 5, 2, 0.0);
        desk.plays(0, 1);
        desk.mixIs(6.0);
        // What has the number now is played, not what had it when the head was set.
        desk.track(0, 10.0);
        desk.plays(0, 1);
        desk.curve(5, 4.0);
        desk.plays(0, 1);
        desk.rackOf(2, Told.GAIN, 1, 1, 1);
        desk.plays(0, 1);
        desk.mixIs(6.0, 60.0, 120.0, 40.0);
        // An effect is another one under its number only where it hangs anew.
        desk.effect(1, Told.GAIN, 100.0);
        desk.plays(0, 1);
        desk.mixIs(6.0, 60.0, 120.0, 40.0, 40.0);
        desk.isAt(0, 0.0, 5L);
    }

    private void noneOfTheLatterTwo() {
        Desk desk = with(1.5);
        desk.head(0, 0, -1, -1, 0.0);
        desk.plays(0, 1);
        desk.mixIs(1.5);
        desk.curve(0, 2.0);
        desk.head(0, 0, 0, -1, 0.0);
        desk.plays(0, 1);
        desk.mixIs(4.5);
        desk.effect(0, Told.GAIN, -1.0);
        desk.rackOf(0, Told.GAIN, 0, 0, 0);
        desk.head(0, 0, -1, 0, 0.0);
        desk.plays(0, 1);
        desk.mixIs(3.0);
        desk.head(0, -1, -1, -1, 0L, Told.BAD);
    }

    private void ratesHaveEnds() {
        Desk desk = with(0.0, 0.0, 0.0);
        desk.head(0, 0, -1, -1, 64.0);
        desk.plays(0, 1);
        desk.isAt(0, 1.0, 1L);
        desk.head(0, 0, -1, -1, -64.0);
        desk.plays(0, 1);
        desk.isAt(0, 2.0, 1L);
        desk.head(0, 0, -1, -1, Told.d(Math.nextUp(64.0)), Told.BAD);
        desk.head(0, 0, -1, -1, Told.d(Math.nextDown(-64.0)), Told.BAD);
        desk.isAt(0, 2.0, 1L);
        desk.head(0, 0, -1, -1, Math.nextDown(64.0));
        desk.plays(0, 1);
        desk.isAt(0, 1.0 - 0x1p-47, 1L);
        desk.head(0, 0, -1, -1, Double.MIN_VALUE);
        desk.plays(0, 3);
        desk.isAt(0, Double.MIN_VALUE * 3, 3L);
        desk.head(0, 0, -1, -1, 0.0);
        desk.plays(0, 3);
        desk.isAt(0, 0.0, 3L);
    }

    private void placeIsADouble() {
        Desk desk = with(0.0, 0.0, 0.0);
        desk.head(0, 0, -1, -1, 0.1);
        desk.isAt(0, 0.0, 0L);
        desk.plays(0, 3);
        desk.isAt(0, 0.30000000000000004, 3L);
        desk.head(0, 0, -1, -1, 0.1);
        desk.isAt(0, 0.0, 0L);
    }

    private void stepsAreCounted() {
        Desk desk = with(0.0);
        desk.head(0, 0, -1, -1, 0.5);
        desk.isAt(0, 0.0, 0L);
        desk.plays(0, 64);
        desk.plays(0, 64);
        desk.plays(0, 1);
        desk.isAt(0, 0.5, 129L);
    }

    private void mixHasEight() {
        Desk desk = with(0.1);
        desk.mixIs();
        desk.refusesMix(-1, 0, Told.BAD);
        desk.refusesMix(8, 0, Told.BAD);
        desk.head(0, 0, -1, -1, 0.0);
        desk.plays(0, 8);
        for (int i = 0; i <= 7; i++) {
            desk.tellsMix(i, 0, Told.f(0.1f));
        }
    }

    private void itemOfATrack() {
        Desk desk = with(1.0, 20.0, 300.0);
        desk.head(0, 0, -1, -1, 0.75);
        desk.plays(0, 4);
        desk.mixIs(1.0, 1.0, 20.0, 300.0);
        // Just below an item, and just at it.
        desk.hush();
        desk.head(0, 0, -1, -1, Math.nextDown(1.0));
        desk.head(1, 0, -1, -1, 1.0);
        desk.head(2, 0, -1, -1, Math.nextDown(3.0));
        desk.plays(0, 2);
        desk.mixIs(1.0, 1.0);
        desk.hush();
        desk.plays(1, 2);
        desk.mixIs(1.0, 20.0);
        desk.hush();
        desk.plays(2, 2);
        desk.mixIs(1.0, 300.0);
        Desk longest = document.desk();
        longest.row(false, 0, 16, 1);
        longest.set(false, 0, 15, Told.f(8.0), 1);
        longest.head(0, 0, -1, -1, Math.nextDown(16.0));
        longest.plays(0, 2);
        longest.mixIs(0.0, 8.0);
    }

    private void trackFails() {
        Desk desk = with(1.0, 2.0, 3.0);
        desk.head(0, 1, -1, -1, 1.0);
        desk.stops(0, 5, 0, Told.MISSING);
        desk.row(false, 1, 0, 1);
        desk.stops(0, 5, 0, Told.OUTSIDE);
        desk.row(false, 1, 4, 1);
        desk.plays(0, 3);
        desk.row(false, 1, 3, 1);
        desk.stops(0, 3, 0, Told.OUTSIDE);
        desk.isAt(0, 3.0, 3L);
        desk.row(false, 1, 0, 1);
        desk.stops(0, 3, 0, Told.OUTSIDE);
        desk.row(false, 1, 4, 1);
        desk.plays(0, 3);
        desk.isAt(0, 2.0, 6L);
        desk.drop(false, 1, 1);
        desk.stops(0, 1, 0, Told.MISSING);
        desk.share(false, 0, 1, 1);
        desk.plays(0, 1);
        // A place amid the last item of a row that has become shorter.
        desk.head(1, 0, -1, -1, 1.5);
        desk.plays(1, 1);
        desk.track(0, 1.0);
        desk.stops(1, 1, 0, Told.OUTSIDE);
        desk.track(0, 1.0, 2.0);
        desk.plays(1, 1);
    }

    private void itemOfACurve() {
        Desk desk = with(1.0, 10.0);
        desk.curve(4, 2.0, -3.0, 0.5);
        desk.head(1, 0, 4, -1, 1.0);
        desk.plays(1, 3);
        desk.mixIs(2.0, -30.0, 0.5);
        // A curve of the very number of the track is another row.
        desk.curve(0, 7.0);
        desk.head(1, 0, 0, -1, 1.0);
        desk.hush();
        desk.plays(1, 2);
        desk.mixIs(7.0, 70.0);
    }

    private void curveFails() {
        Desk desk = with(1.0);
        desk.head(0, 0, 3, -1, 1.0);
        desk.stops(0, 2, 0, Told.MISSING);
        desk.row(true, 3, 0, 1);
        desk.stops(0, 2, 0, Told.OUTSIDE);
        desk.row(true, 3, 1, 1);
        desk.plays(0, 2);
        desk.drop(true, 3, 1);
        desk.stops(0, 2, 0, Told.MISSING);
        desk.isAt(0, 0.0, 2L);
        // The track is looked at before the curve, and the curve before the rack.
        desk.drop(false, 0, 1);
        desk.row(true, 3, 0, 1);
        desk.stops(0, 2, 0, Told.MISSING);
        desk.row(false, 0, 0, 1);
        desk.drop(true, 3, 1);
        desk.stops(0, 2, 0, Told.OUTSIDE);
        desk.row(false, 0, 1, 1);
        desk.row(true, 3, 0, 1);
        desk.head(0, 0, 3, 0, 1.0);
        desk.stops(0, 2, 0, Told.OUTSIDE);
    }

    private void curveBeginsAgain() {
        Desk desk = with(1.0);
        desk.curve(0, 1.0, 2.0, 3.0);
        desk.head(0, 0, 0, -1, 0.0);
        desk.plays(0, 7);
        desk.mixIs(1.0, 2.0, 3.0, 1.0, 2.0, 3.0, 1.0);
        // Step 7 by 16, by 7 and by 1; the place has no say in it.
        desk.hush();
        desk.row(true, 0, 16, 1);
        desk.set(true, 0, 7, Told.d(5.0), 1);
        desk.plays(0, 1);
        desk.mixIs(0.0, 0.0, 0.0, 0.0, 0.0, 0.0, 0.0, 5.0);
        desk.curve(0, 9.0, 8.0, 7.0, 6.0, 5.0, 4.0, 3.0);
        desk.plays(0, 1);
        desk.mixIs(8.0, 0.0, 0.0, 0.0, 0.0, 0.0, 0.0, 5.0);
        desk.curve(0, 2.0);
        desk.plays(0, 1);
        desk.mixIs(8.0, 2.0, 0.0, 0.0, 0.0, 0.0, 0.0, 5.0);
        // Far on, the rest is by all the steps.
        desk.curve(0, 1.0, 0.0, 0.0, 0.0, 0.0);
        desk.plays(0, 60);
        desk.hush();
        desk.plays(0, 5);
        desk.mixIs(0.0, 0.0, 0.0, 0.0, 0.0, 0.0, 1.0);
        desk.isAt(0, 0.0, 75L);
    }

    private void timesIsHeld() {
        Desk desk = with(3.0, 1.0, Told.GREATEST, -Told.GREATEST, Told.SMALLEST, 3.0);
        // The first one would be another number if the curve's item were a float.
        desk.curve(0, 1.0 + 0x3p-25, 1.0 + 0x1p-24, Double.MAX_VALUE, 1.0 + 0x1p-52, 0.5, Double.MIN_VALUE);
        desk.head(0, 0, 0, -1, 1.0);
        desk.plays(0, 6);
        desk.mixIs(3.0 + 0x1p-22, 1.0, Told.GREATEST, -Told.GREATEST, 0.0, 0.0);
        // Held before the rack, whose gain of 0.0 would make no number of what is endless.
        desk.track(0, Told.GREATEST, 1.0);
        desk.curve(0, Double.MAX_VALUE, 1.0 + 0x1p-24);
        desk.effect(0, Told.GAIN, 0.0);
        desk.effect(1, Told.GAIN, 0.5);
        desk.effect(2, Told.GAIN, 1.0);
        desk.rackOf(0, Told.GAIN, 0, 2, 2);
        desk.rackOf(1, Told.GAIN, 1, 2, 2);
        desk.hush();
        desk.head(0, 0, 0, 0, 0.0);
        desk.plays(0, 1);
        desk.mixIs();
        desk.head(0, 0, 0, 1, 0.0);
        desk.plays(0, 1);
        desk.mixIs(Told.GREATEST / 2);
    }

    private void rackMakesInOrder() {
        Desk desk = with(0.75);
        desk.effect(0, Told.GAIN, 3.0);
        desk.effect(1, Told.FOLD, 1.0);
        desk.effect(2, Told.GAIN, -4.0);
        desk.head(0, 0, -1, 1, 0.0);
        desk.rackOf(1, Told.GAIN, 0, 1, 2);
        desk.plays(0, 1);
        desk.rackOf(1, Told.GAIN, 2, 1, 0);
        desk.plays(0, 1);
        desk.rackOf(1, Told.GAIN, 1, 0, 2);
        desk.plays(0, 1);
        desk.mixIs(-1.0, -3.0, -9.0);
        // Each place holds what it makes.
        desk.track(0, Told.GREATEST);
        desk.effect(3, Told.GAIN, 0.25);
        desk.effect(4, Told.GAIN, 2.0);
        desk.rackOf(1, Told.GAIN, 4, 4, 3);
        desk.hush();
        desk.head(0, 0, -1, 1, 0.0);
        desk.plays(0, 1);
        desk.mixIs(Told.GREATEST / 4);
        // The curve comes first.
        desk.track(0, 0.75);
        desk.curve(0, 2.0);
        desk.effect(5, Told.CRUSH, 1.0);
        desk.rackOf(1, Told.CRUSH, 5, 5, 5);
        desk.hush();
        desk.head(0, 0, 0, 1, 0.0);
        desk.plays(0, 1);
        desk.mixIs(1.0);
    }

    private void rackWithABarePlaceFails() {
        Desk desk = with(1.0);
        desk.head(0, 0, -1, 2, 1.0);
        desk.rack(2, Told.CRUSH, 1);
        desk.effect(0, Told.CRUSH, 1.0);
        for (int i = 0; i <= 2; i++) {
            desk.stops(0, 2, 0, Told.MISSING);
            desk.hang(2, i, 0, 1);
        }
        desk.plays(0, 2);
        for (int i = 0; i <= 2; i++) {
            desk.hang(2, i, 5, 1);
            desk.stops(0, 2, 0, Told.MISSING);
            desk.hang(2, i, 0, 1);
        }
        desk.isAt(0, 0.0, 2L);
        desk.mixIs(1.0, 1.0);
    }

    private void noRackFails() {
        Desk desk = with(1.0);
        for (int r = 0; r <= 2; r++) {
            desk.head(0, 0, -1, r, 1.0);
            desk.stops(0, 2, 0, Told.MISSING);
        }
        desk.effect(0, Told.GAIN, 1.0);
        desk.rackOf(0, Told.GAIN, 0, 0, 0);
        desk.stops(0, 2, 0, Told.MISSING);
        desk.rackOf(2, Told.GAIN, 0, 0, 0);
        desk.plays(0, 2);
    }

    private void mixTurnsRound() {
        Desk desk = with(1.0, 20.0, 300.0);
        desk.head(0, 0, -1, -1, 1.0);
        desk.plays(0, 7);
        desk.mixIs(1.0, 20.0, 300.0, 1.0, 20.0, 300.0, 1.0);
        desk.plays(0, 1);
        desk.mixIs(1.0, 20.0, 300.0, 1.0, 20.0, 300.0, 1.0, 20.0);
        desk.plays(0, 2);
        desk.mixIs(301.0, 21.0, 300.0, 1.0, 20.0, 300.0, 1.0, 20.0);
        // Each head goes by its own steps.
        desk.head(1, 0, -1, -1, 0.0);
        desk.plays(1, 1);
        desk.mixIs(302.0, 21.0, 300.0, 1.0, 20.0, 300.0, 1.0, 20.0);
    }

    private void sumIsHeld() {
        Desk desk = with(1.0, Told.GREATEST, -Told.GREATEST, -0.0, 16777216.0, 0.5);
        desk.head(0, 0, -1, -1, 1.0);
        desk.plays(0, 6);
        desk.mixIs(1.0, Told.GREATEST, -Told.GREATEST, 0.0, 16777216.0, 0.5);
        desk.track(0, 0x1p-24, 0x1p103, -Told.GREATEST, -0.0, 1.0, -0.5);
        desk.head(0, 0, -1, -1, 1.0);
        desk.plays(0, 6);
        desk.mixIs(1.0, Told.GREATEST, -Told.GREATEST, 0.0, 16777216.0, 0.0);
        // What was held comes back from the end at once.
        desk.track(0, 0x3p-24, -0x1p104, Told.GREATEST, 0.0, 3.0, 0.0);
        desk.head(0, 0, -1, -1, 1.0);
        desk.plays(0, 5);
        desk.mixIs(1.0 + 0x1p-22, Math.nextDown(Float.MAX_VALUE), 0.0, 0.0, 16777220.0);
    }

    private void placeIsARest() {
        goes(5, 2.0, 2.0, 4.0, 1.0, 3.0, 0.0);
        goes(3, 3.0, 0.0, 0.0);
        goes(3, 64.0, 1.0, 2.0, 0.0);
        goes(1, 0.75, 0.75, 0.5, 0.25, 0.0);
        goes(16, 15.5, 15.5, 15.0, 14.5);
        goes(16, 16.0, 0.0);
        goes(16, Math.nextDown(16.0), Math.nextDown(16.0), 16.0 - 0x1p-48);
        goes(2, 0.7, 0.7, 1.4, 0.7 + 1.4 - 2.0);
        goes(1, 1e-20, 1e-20, 2e-20);
        goAsJavasRests();
        // By as many as the track has at that step.
        Desk desk = with(0.0, 0.0, 0.0, 0.0);
        desk.head(0, 0, -1, -1, 2.5);
        desk.plays(0, 1);
        desk.isAt(0, 2.5, 1L);
        desk.row(false, 0, 3, 1);
        desk.plays(0, 1);
        desk.isAt(0, 2.0, 2L);
    }

    /** The document's words once more, for tracks of all lengths. */
    private void goAsJavasRests() {
        double[] rates = {1.0, -1.0, 0.3, -0.3, 64.0, -64.0, 63.99, -63.99, 1e-20, 0.0, -0.0, 4.9e-324, 7.5, -3.0};
        for (int n = 1; n <= 16; n++) {
            for (double rate : rates) {
                double[] places = new double[12];
                double place = 0.0;
                for (int i = 0; i < places.length; i++) {
                    place = (place + rate) % n;
                    place = place < 0.0 ? place + n : place;
                    place = place < n ? place : 0.0;
                    places[i] = place;
                }
                goes(n, rate, places);
            }
        }
    }

    /** From 0.0 on, a head's places over a track of n items. */
    private void goes(int n, double rate, double... places) {
        Desk desk = document.desk();
        desk.row(false, 0, n, 1);
        desk.head(0, 0, -1, -1, rate);
        for (int i = 0; i < places.length; i++) {
            desk.plays(0, 1);
            desk.isAt(0, places[i], i + 1);
        }
    }

    private void placeBelowZero() {
        goes(5, -2.0, 3.0, 1.0, 4.0, 2.0, 0.0, 3.0);
        goes(3, -64.0, 2.0, 1.0);
        goes(16, -0.5, 15.5, 15.0);
        goes(1, -0.25, 0.75, 0.5, 0.25, 0.0, 0.75);
        goes(3, -0x1p-51, 3.0 - 0x1p-51, 3.0 - 0x1p-50);
        // No rest, with the sign of what it is of, is not below 0.0.
        goes(3, -3.0, -0.0, -0.0);
        goes(16, -64.0, -0.0);
        Desk desk = with(1.0, 2.0, 3.0);
        desk.head(0, 0, -1, -1, -1.0);
        desk.plays(0, 4);
        desk.mixIs(1.0, 3.0, 2.0, 1.0);
    }

    private void placeAtTheEnd() {
        goes(3, -Double.MIN_VALUE, 0.0, 0.0);
        goes(3, -1e-20, 0.0, 0.0);
        // Halfway between two doubles, 3.0 is the even one.
        goes(3, -0x1p-52, 0.0);
        goes(1, -0x1p-54, 0.0);
        goes(1, -0x1p-53, 1.0 - 0x1p-53);
        goes(16, -0x1p-50, 0.0);
        goes(16, -0x1p-49, 16.0 - 0x1p-49);
        Desk desk = with(1.0, 2.0, 3.0);
        desk.head(0, 0, -1, -1, -1e-20);
        desk.plays(0, 3);
        desk.mixIs(1.0, 1.0, 1.0);
    }

    private void stepsGrow() {
        Desk desk = with(1.0, 2.0);
        desk.head(0, 0, -1, -1, 0.5);
        for (int step = 1; step <= 9; step++) {
            desk.plays(0, 1);
            desk.isAt(0, step % 4 * 0.5, step);
        }
        desk.head(1, 0, -1, -1, 0.5);
        desk.plays(1, 64);
        desk.isAt(1, 0.0, 64L);
        desk.isAt(0, 0.5, 9L);
        // Of one that stays where it is, too.
        desk.head(2, 0, -1, -1, 0.0);
        desk.plays(2, 9);
        desk.isAt(2, 0.0, 9L);
    }

    private void failureLeavesAll() {
        Desk desk = with(5.0, 6.0);
        desk.curve(0, 2.0);
        desk.effect(0, Told.GAIN, 3.0);
        desk.rackOf(0, Told.GAIN, 0, 0, 0);
        desk.head(0, 0, 0, 0, 0.5);
        desk.plays(0, 1);
        desk.isAt(0, 0.5, 1L);
        desk.hang(0, 2, 5, 1);
        desk.stops(0, 4, 0, Told.MISSING);
        desk.isAt(0, 0.5, 1L);
        desk.hang(0, 2, 0, 1);
        desk.curve(0);
        desk.stops(0, 4, 0, Told.OUTSIDE);
        desk.isAt(0, 0.5, 1L);
        desk.drop(true, 0, 1);
        desk.stops(0, 4, 0, Told.MISSING);
        desk.isAt(0, 0.5, 1L);
        desk.curve(0, 2.0);
        desk.track(0);
        desk.stops(0, 4, 0, Told.OUTSIDE);
        desk.isAt(0, 0.5, 1L);
        desk.drop(false, 0, 1);
        desk.stops(0, 4, 0, Told.MISSING);
        desk.isAt(0, 0.5, 1L);
        desk.mixIs(270.0);
        // It goes on from where it stood.
        desk.track(0, 5.0, 6.0);
        desk.plays(0, 1);
        desk.isAt(0, 1.0, 2L);
        desk.mixIs(270.0, 270.0);
        desk.head(1, 0, -1, 2, 0.5);
        desk.stops(1, 4, 0, Told.MISSING);
        desk.isAt(1, 0.0, 0L);
        desk.mixIs(270.0, 270.0);
    }
}
