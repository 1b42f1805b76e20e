/** The terms of effects and racks, and promises 8 to 12: effect, make, rack, hang, take. */
final class EffectSentences {
    private static final String TERMS = "Terms";
    private static final String EFFECT = "Promise 8: effect";
    private static final String MAKE = "Promise 9: make";
    private static final String RACK = "Promise 10: rack";
    private static final String HANG = "Promise 11: hang";
    private static final String TAKE = "Promise 12: take";

    private final Sentences document;

    EffectSentences(Sentences document) {
        this.document = document;
    }

    void test() {
        document.test(TERMS, "EFFECTS 0 .. 5 are there or not (at first):", this::sixEffects);
        document.test(TERMS, "of a KIND,", this::kindsMakeOtherThings);
        document.test(TERMS, "with an AMOUNT (a double of -1000000 to 1000000).", this::amountsHaveEnds);
        document.test(TERMS, "What one MAKES of a float s (as a double, times and rests as of doubles):", this::asDoubles);
        document.test(TERMS, "0 GAIN: s times AMOUNT.", this::gain);
        document.test(TERMS, "1 FOLD (a GAIN): what a GAIN makes, its rest by 2.0;", this::fold);
        document.test(TERMS, "if that is above 1.0, 2.0 less it;", this::foldAboveOne);
        document.test(TERMS, "if it is below -1.0, -2.0 less it.", this::foldBelowMinusOne);
        document.test(TERMS, "2 CRUSH: with m the AMOUNT cut to an int", this::crushCutsItsAmount);
        document.test(TERMS, "(1, if that is below 1):", this::crushIsAtLeastOne);
        document.test(TERMS, "s times m cut to a long,", this::crushCutsToALong);
        document.test(TERMS, "by m (doubles).", this::crushDividesDoubles);
        document.test(TERMS, "In all cases HELD as a float then.", this::whatIsMadeIsHeld);
        document.test(TERMS, "RACKS 0 .. 2 have 3 places,", this::threeRacksOfThreePlaces);
        document.test(TERMS, "made for a KIND: they have EFFECTS of that KIND", this::racksKeepToTheirKind);
        document.test(TERMS, "(of GAIN: FOLDS, too),", this::racksOfGainsHaveFolds);
        document.test(TERMS, "or none.", this::placesMayBeBare);

        document.test(EFFECT, "An EFFECT: 1.", this::effectIsMade);
        document.test(EFFECT, "BAD: its place,", this::effectHasABadPlace);
        document.test(EFFECT, "KIND (0 .. 2),", this::effectHasABadKind);
        document.test(EFFECT, "AMOUNT (BITS).", this::effectHasABadAmount);

        document.test(MAKE, "What an EFFECT MAKES of a float (BITS) is TOLD: 1.", this::makeTells);
        document.test(MAKE, "BAD;", this::makeIsBad);
        document.test(MAKE, "FAILURE 1: there is none.", this::makeFails);

        document.test(RACK, "A RACK for a KIND,", this::rackIsForAKind);
        document.test(RACK, "with bare places: 1.", this::rackIsBare);
        document.test(RACK, "BAD.", this::rackIsBad);

        document.test(HANG, "Place i of a RACK gets EFFECT k,", this::hangPutsOne);
        document.test(HANG, "or none: 1.", this::hangOfNone);
        document.test(HANG, "BAD: RACK, EFFECT;", this::hangIsBad);
        document.test(HANG, "FAILURES 1 (no RACK),", this::hangOnNoRack);
        document.test(HANG, "2 (0 .. 2),", this::hangOutside);
        document.test(HANG, "4.", this::hangOfAnotherKind);

        document.test(TAKE, "EFFECT k becomes what is in place i of a RACK,", this::takeBringsOne);
        document.test(TAKE, "taken as one of a KIND", this::takeKeepsToTheKind);
        document.test(TAKE, "(GAIN: FOLDS, too;", this::takeOfAFoldAsAGain);
        document.test(TAKE, "none is of all): 1, 0 (none).", this::takeOfNone);
        document.test(TAKE, "BAD: RACK, KIND, EFFECT;", this::takeIsBad);
        document.test(TAKE, "FAILURES 1, 2, 3.", this::takeFails);
    }

    /** A desk with an effect 0. */
    private Desk with(int kind, double amount) {
        Desk desk = document.desk();
        desk.effect(0, kind, amount);
        return desk;
    }

    private void sixEffects() {
        Desk desk = document.desk();
        for (int k = 0; k <= 5; k++) {
            desk.refusesMake(k, Told.f(1.0), Told.MISSING);
        }
        for (int k = 0; k <= 5; k++) {
            desk.effect(k, Told.GAIN, k + 2.0);
        }
        for (int k = 0; k <= 5; k++) {
            desk.makes(k, 1.0, k + 2.0);
        }
        for (int k : Told.beside(0, 5)) {
            desk.effect(k, Told.GAIN, Told.d(1.0), Told.BAD);
            desk.refusesMake(k, Told.f(1.0), Told.BAD);
        }
    }

    private void kindsMakeOtherThings() {
        double[] made = {2.5, 0.5, 1.0};
        for (int kind = 0; kind <= 2; kind++) {
            with(kind, 2.0).makes(0, 1.25, made[kind]);
        }
    }

    private void amountsHaveEnds() {
        for (int kind = 0; kind <= 2; kind++) {
            Desk desk = document.desk();
            desk.effect(0, kind, 1000000.0);
            desk.effect(0, kind, -1000000.0);
            desk.effect(0, kind, Told.d(Math.nextUp(1000000.0)), Told.BAD);
            desk.effect(0, kind, Told.d(Math.nextDown(-1000000.0)), Told.BAD);
            desk.effect(0, kind, Math.nextDown(1000000.0));
            desk.effect(0, kind, Math.nextUp(-1000000.0));
        }
        with(Told.GAIN, 1000000.0).makes(0, 1.0, 1000000.0);
        with(Told.GAIN, -1000000.0).makes(0, 1.0, -1000000.0);
        with(Told.GAIN, Double.MIN_VALUE).makes(0, 1.0, 0.0);
        with(Told.GAIN, -Double.MIN_VALUE).makes(0, 1.0, -0.0);
        // As a float the amount would be 1.0 and 2 to the power of -23.
        with(Told.GAIN, 1.0 + 0x3p-25).makes(0, 3.0, 3.0 + 0x1p-22);
    }

    private void asDoubles() {
        // As floats, what the gain makes would be rounded before its rest is taken.
        with(Told.FOLD, -3.0).makesBits(0, Told.f(-0.9f), 0x3F333332L);
        with(Told.FOLD, 1.0 + 0x1p-24).makes(0, 3.0, 1.0 - 0x3p-24);
        with(Told.GAIN, 0.1).makes(0, 0.1f, 0.1f * 0.1);
        with(Told.CRUSH, 1000000.0).makes(0, 0.999999f, 0.999998);
    }

    private void gain() {
        Desk desk = with(Told.GAIN, -2.5);
        desk.makes(0, 0.5, -1.25);
        desk.makes(0, -0.5, 1.25);
        desk.makes(0, 0.0, -0.0);
        desk.makes(0, -0.0, 0.0);
        desk.effect(0, Told.GAIN, 0.0);
        desk.makes(0, Told.GREATEST, 0.0);
        desk.makes(0, -Told.GREATEST, -0.0);
        desk.effect(0, Told.GAIN, -0.0);
        desk.makes(0, 3.0, -0.0);
        desk.makes(0, -0.0, 0.0);
        desk.effect(0, Told.GAIN, 1.0);
        desk.makes(0, Told.GREATEST, Told.GREATEST);
        desk.makes(0, -Told.SMALLEST, -Told.SMALLEST);
        // A gain does not fold.
        desk.makes(0, 1.75, 1.75);
    }

    private void fold() {
        Desk desk = with(Told.FOLD, 1.0);
        desk.makes(0, 0.25, 0.25);
        desk.makes(0, -0.25, -0.25);
        desk.makes(0, 2.0, 0.0);
        desk.makes(0, -2.0, -0.0);
        desk.makes(0, 0.0, 0.0);
        desk.makes(0, -0.0, -0.0);
        desk.makes(0, 6.5, 0.5);
        desk.makes(0, -6.5, -0.5);
        desk.makes(0, Told.GREATEST, 0.0);
        desk.makes(0, -Told.GREATEST, -0.0);
        desk.makes(0, Told.SMALLEST, Told.SMALLEST);
        desk.effect(0, Told.FOLD, -3.0);
        desk.makes(0, 0.25, -0.75);
        desk.makes(0, 0.75, -0.25);
        desk.effect(0, Told.FOLD, 0.0);
        desk.makes(0, -5.0, -0.0);
    }

    private void foldAboveOne() {
        Desk desk = with(Told.FOLD, 1.0);
        desk.makes(0, 1.0, 1.0);
        desk.makes(0, Math.nextDown(1.0f), Math.nextDown(1.0f));
        desk.makes(0, Math.nextUp(1.0f), 1.0 - 0x1p-23);
        desk.makes(0, 1.25, 0.75);
        desk.makes(0, Math.nextDown(2.0f), 0x1p-23);
        desk.makes(0, 3.5, 0.5);
        desk.makes(0, 3.0, 1.0);
    }

    private void foldBelowMinusOne() {
        Desk desk = with(Told.FOLD, 1.0);
        desk.makes(0, -1.0, -1.0);
        desk.makes(0, Math.nextUp(-1.0f), Math.nextUp(-1.0f));
        desk.makes(0, Math.nextDown(-1.0f), -1.0 + 0x1p-23);
        desk.makes(0, -1.25, -0.75);
        desk.makes(0, Math.nextUp(-2.0f), -0x1p-23);
        desk.makes(0, -3.5, -0.5);
        desk.makes(0, -5.75, -0.25);
        desk.makes(0, -3.0, -1.0);
    }

    private void crushCutsItsAmount() {
        for (double amount : new double[] {4.0, 4.5, Math.nextDown(5.0)}) {
            Desk desk = with(Told.CRUSH, amount);
            desk.makes(0, 0.3, 0.25);
            desk.makes(0, 7.9, 7.75);
        }
        with(Told.CRUSH, 5.0).makes(0, 0.3, 0.2);
        with(Told.CRUSH, Math.nextDown(1000000.0)).makes(0, 0x1p-16, 15.0 / 999999.0);
        with(Told.CRUSH, 1000000.0).makes(0, 0x1p-16, 15.0 / 1000000.0);
    }

    private void crushIsAtLeastOne() {
        double[] amounts = {1.0, Math.nextDown(2.0), Math.nextDown(1.0), 0.0, -0.0, -0.5, -1.0, -7.0, -1000000.0};
        for (double amount : amounts) {
            Desk desk = with(Told.CRUSH, amount);
            desk.makes(0, 3.75, 3.0);
            desk.makes(0, -3.75, -3.0);
            desk.makes(0, 0.75, 0.0);
        }
        with(Told.CRUSH, 2.0).makes(0, 3.75, 3.5);
    }

    private void crushCutsToALong() {
        Desk desk = with(Told.CRUSH, 4.0);
        desk.makes(0, 0.24, 0.0);
        desk.makes(0, -0.24, 0.0);
        desk.makes(0, -0.0, 0.0);
        desk.makes(0, -0.49, -0.25);
        // Beyond all ints, and beyond all longs.
        desk.makes(0, 3e9, 3e9);
        desk.makes(0, -3e9, -3e9);
        desk.makes(0, 0x1p60, 0x1p60);
        desk.makes(0, 0x1p61, 0x1p61);
        desk.makes(0, 0x1p62, 0x1p61);
        desk.makes(0, -0x1p61, -0x1p61);
        desk.makes(0, -0x1p62, -0x1p61);
        desk.makes(0, Told.GREATEST, 0x1p61);
        desk.makes(0, -Told.GREATEST, -0x1p61);
    }

    private void crushDividesDoubles() {
        with(Told.CRUSH, 3.0).makes(0, 0.7, 2.0 / 3.0);
        with(Told.CRUSH, 7.0).makes(0, -0.99, -6.0 / 7.0);
        with(Told.CRUSH, 2.0).makes(0, 0.5, 0.5);
        // As a float, 16777217 would be 16777216, and a fifth of it 3355443.25.
        with(Told.CRUSH, 5.0).makes(0, 3355443.5, 3355443.5);
    }

    private void whatIsMadeIsHeld() {
        Desk gain = with(Told.GAIN, 2.0);
        gain.makes(0, Told.GREATEST, Told.GREATEST);
        gain.makes(0, -Told.GREATEST, -Told.GREATEST);
        with(Told.GAIN, 1.0 + 0x1p-24).makes(0, 1.0, 1.0);
        with(Told.GAIN, 0.5).makes(0, -Told.SMALLEST, -0.0);
        // What these fold to is halfway between two floats.
        with(Told.FOLD, 1.0 + 0x1p-25).makes(0, 1.0, 1.0);
        with(Told.FOLD, -1.0 - 0x3p-25).makes(0, 1.0, -1.0 + 0x1p-23);
        with(Told.CRUSH, 3.0).makesBits(0, Told.f(0.4), 0x3EAAAAABL);
        with(Told.CRUSH, 1.0).makes(0, Told.GREATEST, 0x1p63);
    }

    private void threeRacksOfThreePlaces() {
        Desk desk = with(Told.GAIN, 2.0);
        for (int r = 0; r <= 2; r++) {
            desk.hang(r, 0, 0, Told.MISSING);
            desk.rack(r, Told.GAIN, 1);
            for (int i = 0; i <= 2; i++) {
                desk.hang(r, i, 0, 1);
                desk.take(r, i, Told.GAIN, 0, 1);
            }
            desk.hang(r, 3, 0, Told.OUTSIDE);
            desk.hang(r, -1, 0, Told.OUTSIDE);
        }
        for (int r : Told.beside(0, 2)) {
            desk.rack(r, Told.GAIN, Told.BAD);
            desk.hang(r, 0, 0, Told.BAD);
        }
    }

    private void racksKeepToTheirKind() {
        int[][] answers = {{1, 1, Told.STORE}, {Told.STORE, 1, Told.STORE}, {Told.STORE, Told.STORE, 1}};
        for (int kind = 0; kind <= 2; kind++) {
            Desk desk = document.desk();
            desk.rack(1, kind, 1);
            for (int of = 0; of <= 2; of++) {
                desk.effect(of, of, 1.0);
                desk.hang(1, of, of, answers[kind][of]);
            }
        }
    }

    private void racksOfGainsHaveFolds() {
        Desk desk = with(Told.FOLD, 1.0);
        desk.rack(0, Told.GAIN, 1);
        desk.hang(0, 0, 0, 1);
        desk.take(0, 0, Told.FOLD, 5, 1);
        desk.makes(5, 1.25, 0.75);
        // Not the other way round.
        desk.effect(1, Told.GAIN, 1.0);
        desk.rack(1, Told.FOLD, 1);
        desk.hang(1, 0, 1, Told.STORE);
    }

    private void placesMayBeBare() {
        Desk desk = with(Told.GAIN, 1.0);
        for (int kind = 0; kind <= 2; kind++) {
            desk.rack(kind, kind, 1);
            for (int i = 0; i <= 2; i++) {
                desk.take(kind, i, kind, 5, 0);
                desk.hang(kind, i, 5, 1);
                desk.take(kind, i, kind, 5, 0);
            }
        }
    }

    private void effectIsMade() {
        Desk desk = document.desk();
        desk.effect(5, Told.GAIN, 3.0);
        desk.makes(5, 0.5, 1.5);
        desk.effect(5, Told.CRUSH, 3.0);
        desk.makes(5, 0.5, 1.0 / 3.0);
        desk.refusesMake(4, 0L, Told.MISSING);
        desk.effect(4, Told.FOLD, 3.0);
        desk.makes(4, 0.5, 0.5);
        desk.makes(5, 0.5, 1.0 / 3.0);
        // What hangs in a rack is the effect that was there then.
        desk.rack(0, Told.FOLD, 1);
        desk.hang(0, 0, 4, 1);
        desk.effect(4, Told.GAIN, 9.0);
        desk.take(0, 0, Told.FOLD, 3, 1);
        desk.makes(3, 0.5, 0.5);
    }

    private void effectHasABadPlace() {
        Desk desk = with(Told.GAIN, 3.0);
        desk.effect(5, Told.GAIN, 4.0);
        for (int k : Told.beside(0, 5)) {
            for (int kind = 0; kind <= 2; kind++) {
                desk.effect(k, kind, Told.d(7.0), Told.BAD);
            }
        }
        desk.makes(0, 2.0, 6.0);
        desk.makes(5, 2.0, 8.0);
    }

    private void effectHasABadKind() {
        Desk desk = with(Told.GAIN, 3.0);
        for (int kind : Told.beside(0, 2)) {
            desk.effect(0, kind, Told.d(7.0), Told.BAD);
            desk.effect(1, kind, Told.d(7.0), Told.BAD);
        }
        desk.makes(0, 2.0, 6.0);
        desk.refusesMake(1, 0L, Told.MISSING);
        for (int kind = 0; kind <= 2; kind++) {
            desk.effect(kind, kind, 1.0);
        }
    }

    private void effectHasABadAmount() {
        Desk desk = with(Told.GAIN, 3.0);
        double[] amounts = {Math.nextUp(1000000.0), Math.nextDown(-1000000.0), 1000001.0, -1000001.0, Double.MAX_VALUE,
            -Double.MAX_VALUE};
        for (int kind = 0; kind <= 2; kind++) {
            for (double amount : amounts) {
                desk.effect(0, kind, Told.d(amount), Told.BAD);
            }
            for (long bits : Told.badBits(true)) {
                desk.effect(0, kind, bits, Told.BAD);
            }
        }
        desk.effect(1, Told.GAIN, Told.d(1e7), Told.BAD);
        desk.makes(0, 2.0, 6.0);
        desk.refusesMake(1, 0L, Told.MISSING);
    }

    private void makeTells() {
        Desk desk = with(Told.GAIN, 1.0);
        for (double s : new double[] {0.0, -0.0, 1.0, -1.0, Told.SMALLEST, -Told.SMALLEST, Told.GREATEST, -Told.GREATEST}) {
            desk.makes(0, s, s);
        }
        desk.makesBits(0, 0x3F800000L, 0x3F800000L);
        desk.makesBits(0, 0xBF800000L, 0xFFFFFFFF_BF800000L);
        desk.told(0xFFFFFFFF_BF800000L);
    }

    private void makeIsBad() {
        Desk desk = with(Told.GAIN, 1.0);
        desk.effect(5, Told.FOLD, 1.0);
        desk.makes(0, 5.0, 5.0);
        for (int k : Told.beside(0, 5)) {
            desk.refusesMake(k, 0L, Told.BAD);
        }
        for (long bits : Told.badBits(false)) {
            desk.refusesMake(0, bits, Told.BAD);
            desk.refusesMake(5, bits, Told.BAD);
            // Looked for before the failure.
            desk.refusesMake(1, bits, Told.BAD);
        }
    }

    private void makeFails() {
        Desk desk = with(Told.GAIN, 1.0);
        desk.makes(0, 5.0, 5.0);
        for (int k = 1; k <= 5; k++) {
            desk.refusesMake(k, Told.f(1.0), Told.MISSING);
        }
        // An effect that is taken away again.
        desk.rack(0, Told.GAIN, 1);
        desk.take(0, 0, Told.GAIN, 0, 0);
        desk.refusesMake(0, Told.f(1.0), Told.MISSING);
    }

    private void rackIsForAKind() {
        Desk desk = with(Told.CRUSH, 1.0);
        desk.rack(2, Told.GAIN, 1);
        desk.hang(2, 0, 0, Told.STORE);
        desk.rack(2, Told.FOLD, 1);
        desk.hang(2, 0, 0, Told.STORE);
        desk.rack(2, Told.CRUSH, 1);
        desk.hang(2, 0, 0, 1);
    }

    private void rackIsBare() {
        Desk desk = with(Told.GAIN, 1.0);
        for (int r = 0; r <= 2; r++) {
            desk.rackOf(r, Told.GAIN, 0, 0, 0);
            desk.take(r, 2, Told.GAIN, 5, 1);
        }
        desk.rack(1, Told.GAIN, 1);
        for (int i = 0; i <= 2; i++) {
            desk.take(1, i, Told.GAIN, 5, 0);
            desk.take(0, i, Told.GAIN, 5, 1);
            desk.take(2, i, Told.GAIN, 5, 1);
        }
    }

    private void rackIsBad() {
        Desk desk = with(Told.GAIN, 1.0);
        desk.rackOf(0, Told.GAIN, 0, 0, 0);
        for (int r : Told.beside(0, 2)) {
            desk.rack(r, Told.GAIN, Told.BAD);
        }
        for (int kind : Told.beside(0, 2)) {
            desk.rack(0, kind, Told.BAD);
            desk.rack(1, kind, Told.BAD);
        }
        desk.take(0, 0, Told.GAIN, 5, 1);
        desk.take(1, 0, Told.GAIN, 5, Told.MISSING);
    }

    private void hangPutsOne() {
        Desk desk = document.desk();
        for (int k = 0; k <= 5; k++) {
            desk.effect(k, Told.GAIN, k + 2.0);
        }
        desk.rackOf(0, Told.GAIN, 0, 3, 5);
        desk.rackOf(2, Told.GAIN, 4, 4, 1);
        int[][] hung = {{0, 3, 5}, {}, {4, 4, 1}};
        for (int r = 0; r <= 2; r += 2) {
            for (int i = 0; i <= 2; i++) {
                desk.take(r, i, Told.GAIN, 2, 1);
                desk.makes(2, 1.0, hung[r][i] + 2.0);
            }
        }
        desk.hang(0, 1, 1, 1);
        desk.take(0, 1, Told.GAIN, 2, 1);
        desk.makes(2, 1.0, 3.0);
    }

    private void hangOfNone() {
        Desk desk = with(Told.FOLD, 1.0);
        for (int r = 0; r <= 1; r++) {
            desk.rackOf(r, r, 0, 0, 0);
            desk.hang(r, 1, 5, 1);
            desk.take(r, 1, r, 4, 0);
            desk.take(r, 0, r, 4, 1);
            desk.take(r, 2, r, 4, 1);
        }
        // None fits a rack of each kind.
        desk.rack(2, Told.CRUSH, 1);
        desk.hang(2, 0, 5, 1);
    }

    private void hangIsBad() {
        Desk desk = with(Told.GAIN, 1.0);
        desk.rackOf(0, Told.GAIN, 0, 0, 0);
        for (int r : Told.beside(0, 2)) {
            desk.hang(r, 0, 0, Told.BAD);
            desk.hang(r, 9, 0, Told.BAD);
        }
        for (int k : Told.beside(0, 5)) {
            desk.hang(0, 0, k, Told.BAD);
            // Looked for before the failures.
            desk.hang(0, 3, k, Told.BAD);
            desk.hang(1, 0, k, Told.BAD);
        }
        desk.take(0, 0, Told.GAIN, 5, 1);
    }

    private void hangOnNoRack() {
        Desk desk = with(Told.GAIN, 1.0);
        desk.rack(1, Told.GAIN, 1);
        for (int r = 0; r <= 2; r += 2) {
            desk.hang(r, 0, 0, Told.MISSING);
            desk.hang(r, 0, 5, Told.MISSING);
            desk.hang(r, 3, 0, Told.MISSING);
            desk.hang(r, -1, 0, Told.MISSING);
        }
        desk.hang(1, 0, 0, 1);
    }

    private void hangOutside() {
        Desk desk = with(Told.GAIN, 1.0);
        desk.effect(1, Told.CRUSH, 1.0);
        desk.rack(1, Told.GAIN, 1);
        for (int i : Told.beside(0, 2)) {
            desk.hang(1, i, 0, Told.OUTSIDE);
            desk.hang(1, i, 5, Told.OUTSIDE);
            // Looked for before failure 4.
            desk.hang(1, i, 1, Told.OUTSIDE);
        }
        for (int i = 0; i <= 2; i++) {
            desk.take(1, i, Told.GAIN, 5, 0);
            desk.hang(1, i, 0, 1);
        }
    }

    private void hangOfAnotherKind() {
        Desk desk = with(Told.GAIN, 2.0);
        desk.effect(1, Told.FOLD, 2.0);
        desk.effect(2, Told.CRUSH, 2.0);
        desk.rackOf(0, Told.GAIN, 0, 0, 0);
        desk.rackOf(1, Told.FOLD, 1, 1, 1);
        desk.rackOf(2, Told.CRUSH, 2, 2, 2);
        for (int i = 0; i <= 2; i++) {
            desk.hang(0, i, 2, Told.STORE);
            desk.hang(1, i, 0, Told.STORE);
            desk.hang(1, i, 2, Told.STORE);
            desk.hang(2, i, 0, Told.STORE);
            desk.hang(2, i, 1, Told.STORE);
            // What hung there hangs there still.
            desk.take(0, i, Told.GAIN, 5, 1);
            desk.makes(5, 1.25, 2.5);
            desk.take(1, i, Told.FOLD, 5, 1);
            desk.makes(5, 1.25, 0.5);
            desk.take(2, i, Told.CRUSH, 5, 1);
            desk.makes(5, 1.25, 1.0);
        }
    }

    private void takeBringsOne() {
        Desk desk = with(Told.GAIN, 2.0);
        desk.effect(1, Told.GAIN, 3.0);
        desk.effect(2, Told.GAIN, 4.0);
        desk.rackOf(1, Told.GAIN, 0, 1, 2);
        for (int i = 0; i <= 2; i++) {
            desk.take(1, i, Told.GAIN, 5, 1);
            desk.makes(5, 1.0, i + 2.0);
            // It is in its place still.
            desk.take(1, i, Told.GAIN, 4, 1);
            desk.makes(4, 1.0, i + 2.0);
        }
        desk.makes(0, 1.0, 2.0);
        desk.take(1, 2, Told.GAIN, 0, 1);
        desk.makes(0, 1.0, 4.0);
        desk.refusesMake(3, 0L, Told.MISSING);
    }

    private void takeKeepsToTheKind() {
        int[][] answers = {{1, Told.CAST, Told.CAST}, {1, 1, Told.CAST}, {Told.CAST, Told.CAST, 1}};
        double[] made = {0.75, 0.75, 0.0};
        for (int kind = 0; kind <= 2; kind++) {
            for (int as = 0; as <= 2; as++) {
                Desk desk = with(kind, 3.0);
                desk.effect(1, Told.GAIN, 5.0);
                desk.rack(1, kind, 1);
                desk.hang(1, 0, 0, 1);
                desk.take(1, 0, as, 1, answers[kind][as]);
                desk.makes(1, 0.25, answers[kind][as] == 1 ? made[kind] : 1.25);
            }
        }
    }

    private void takeOfAFoldAsAGain() {
        Desk desk = with(Told.FOLD, 1.0);
        desk.effect(1, Told.GAIN, 1.0);
        desk.rackOf(0, Told.GAIN, 0, 1, 0);
        desk.take(0, 0, Told.GAIN, 5, 1);
        // It is a fold still, and goes where folds go.
        desk.makes(5, 1.25, 0.75);
        desk.rack(1, Told.FOLD, 1);
        desk.hang(1, 0, 5, 1);
        desk.take(1, 0, Told.GAIN, 4, 1);
        desk.take(0, 1, Told.FOLD, 5, Told.CAST);
    }

    private void takeOfNone() {
        Desk desk = document.desk();
        for (int r = 0; r <= 2; r++) {
            desk.rack(r, r, 1);
            for (int kind = 0; kind <= 2; kind++) {
                desk.effect(5, Told.GAIN, 1.0);
                desk.take(r, 2, kind, 5, 0);
                desk.refusesMake(5, 0L, Told.MISSING);
                desk.take(r, 2, kind, 5, 0);
            }
        }
    }

    private void takeIsBad() {
        Desk desk = with(Told.GAIN, 1.0);
        desk.rackOf(0, Told.GAIN, 0, 0, 0);
        for (int r : Told.beside(0, 2)) {
            desk.take(r, 0, Told.GAIN, 0, Told.BAD);
            desk.take(r, 9, Told.GAIN, 0, Told.BAD);
        }
        for (int kind : Told.beside(0, 2)) {
            desk.take(0, 0, kind, 1, Told.BAD);
            desk.take(0, 9, kind, 1, Told.BAD);
            desk.take(1, 0, kind, 1, Told.BAD);
        }
        for (int k : Told.beside(0, 5)) {
            desk.take(0, 0, Told.GAIN, k, Told.BAD);
            desk.take(0, 9, Told.GAIN, k, Told.BAD);
            desk.take(0, 0, Told.CRUSH, k, Told.BAD);
            desk.take(1, 0, Told.GAIN, k, Told.BAD);
        }
        desk.refusesMake(1, 0L, Told.MISSING);
        desk.makes(0, 5.0, 5.0);
    }

    private void takeFails() {
        Desk desk = with(Told.GAIN, 1.0);
        desk.rackOf(0, Told.GAIN, 0, 0, 0);
        desk.take(1, 0, Told.GAIN, 0, Told.MISSING);
        desk.take(2, 9, Told.CRUSH, 0, Told.MISSING);
        for (int i : Told.beside(0, 2)) {
            desk.take(0, i, Told.GAIN, 0, Told.OUTSIDE);
            desk.take(0, i, Told.CRUSH, 0, Told.OUTSIDE);
        }
        desk.take(0, 2, Told.FOLD, 0, Told.CAST);
        desk.take(0, 2, Told.CRUSH, 0, Told.CAST);
        desk.makes(0, 5.0, 5.0);
    }
}
