/** What it is, the terms of numbers, rows and failures, and promise 1. */
final class WordSentences {
    private static final String INTRO = "What it is";
    private static final String TERMS = "Terms";
    private static final String NEW = "Promise 1: A new object";
    private static final boolean[] BOTH = {false, true};

    private final Sentences document;

    WordSentences(Sentences document) {
        this.document = document;
    }

    void test() {
        document.test(INTRO, "rows of floats, curves in rows of doubles, which may not be there", this::rowsAreMissing);
        document.test(INTRO, "or end too early", this::rowsEndTooEarly);
        document.test(INTRO, "places that wrap by a rest", this::placesWrap);
        document.test(INTRO, "all numbers are held so that none ever is endless or none", this::noneIsEndless);
        document.test(INTRO, "of a float as an int, the lowest 32 of a long count", this::floatsHave32Bits);
        document.test(INTRO, "of a double 64", this::doublesHave64Bits);
        document.test(INTRO, "BITS of what is ENDLESS (infinite)", this::endlessBitsAreBad);
        document.test(INTRO, "or no number are BAD", this::bitsOfNoNumberAreBad);
        document.test(INTRO, "An object is used for at most 512 calls after it has been made", this::has512Calls);

        document.test(TERMS, "HELD: a double as a float: the nearest one", this::heldIsNearest);
        document.test(TERMS, "(of two the even one);", this::heldIsEven);
        document.test(TERMS, "one beyond the greatest float (of either sign) becomes that.", this::heldHasAGreatest);
        document.test(TERMS, "TRACKS 0 .. 5 have", () -> sixHaveRows(false));
        document.test(TERMS, "a row of 0 .. 16 floats or none,", () -> rowsHaveUpTo16(false));
        document.test(TERMS, "CURVES 0 .. 5", () -> sixHaveRows(true));
        document.test(TERMS, "a row of 0 .. 16 doubles or none", () -> rowsHaveUpTo16(true));
        document.test(TERMS, "(none at first;", this::noRowsAtFirst);
        document.test(TERMS, "items 0.0;", this::itemsAreZero);
        document.test(TERMS, "several may have one).", this::severalHaveOneRow);
        document.test(TERMS, "FAILURES: 1 MISSING (none there),", this::missing);
        document.test(TERMS, "2 OUTSIDE (no such item),", this::outside);
        document.test(TERMS, "3 CAST,", this::cast);
        document.test(TERMS, "4 STORE;", this::store);
        document.test(TERMS, "told as -10 less it.", this::failuresAreToldBelowMinusTen);

        document.test(NEW, "Nothing is there;", this::nothingIsThere);
        document.test(NEW, "THE MIX 0.0,", this::newMixIsZero);
        document.test(NEW, "THE CLOCK 0.", this::newClockIsZero);
    }

    private void rowsAreMissing() {
        Desk desk = document.desk();
        desk.head(0, 0, 0, -1, 1.0);
        desk.stops(0, 3, 0, Told.MISSING);
        desk.track(0, 7.0);
        desk.stops(0, 3, 0, Told.MISSING);
        desk.curve(0, 1.0);
        desk.plays(0, 3);
        desk.drop(true, 0, 1);
        desk.stops(0, 3, 0, Told.MISSING);
    }

    private void rowsEndTooEarly() {
        Desk desk = document.desk();
        desk.track(0, 1.0, 2.0, 3.0);
        desk.head(0, 0, -1, -1, 1.0);
        desk.plays(0, 2);
        desk.track(0, 1.0, 2.0);
        desk.stops(0, 1, 0, Told.OUTSIDE);
        desk.head(1, 0, 0, -1, 1.0);
        desk.curve(0);
        desk.stops(1, 1, 0, Told.OUTSIDE);
        // A curve that is shorter than the playing begins again.
        desk.curve(0, 1.0);
        desk.plays(1, 5);
    }

    private void placesWrap() {
        Desk desk = document.desk();
        desk.track(0, 1.0, 2.0, 3.0);
        desk.head(0, 0, -1, -1, 2.0);
        desk.plays(0, 1);
        desk.isAt(0, 2.0, 1L);
        desk.plays(0, 1);
        desk.isAt(0, 1.0, 2L);
        desk.plays(0, 1);
        desk.isAt(0, 0.0, 3L);
    }

    private void noneIsEndless() {
        Desk desk = document.desk();
        desk.track(0, Told.GREATEST, -Told.GREATEST);
        desk.curve(0, Double.MAX_VALUE);
        desk.effect(0, Told.GAIN, 1000000.0);
        desk.effect(1, Told.FOLD, -1000000.0);
        desk.effect(2, Told.CRUSH, 1000000.0);
        desk.makes(0, Told.GREATEST, Told.GREATEST);
        desk.makes(1, Told.GREATEST, -0.0);
        desk.makes(2, Told.GREATEST, 9223372036854.775807);
        desk.rackOf(0, Told.GAIN, 0, 0, 0);
        desk.head(0, 0, 0, 0, 64.0);
        desk.head(1, 0, -1, -1, 1.0);
        desk.plays(0, 64);
        desk.plays(0, 64);
        double most = Told.GREATEST;
        desk.mixIs(most, most, most, most, most, most, most, most);
        desk.plays(1, 64);
        desk.mixIs(most, 0.0 - most, most, 0.0 - most, most, 0.0 - most, most, 0.0 - most);
        desk.isAt(0, 0.0, 128L);
    }

    private void floatsHave32Bits() {
        Desk desk = document.desk();
        desk.row(false, 0, 4, 1);
        desk.set(false, 0, 0, 0x7FF00000_3F800000L, 1);
        desk.tellsBits(false, 0, 0, 0x3F800000L);
        desk.set(false, 0, 1, 0x00000000_BF800000L, 1);
        desk.tellsBits(false, 0, 1, 0xFFFFFFFF_BF800000L);
        desk.set(false, 0, 2, 0xFFFFFFFF_00000001L, 1);
        desk.tellsBits(false, 0, 2, 1L);
        desk.set(false, 0, 3, 0x12345678_80000000L, 1);
        desk.tellsBits(false, 0, 3, 0xFFFFFFFF_80000000L);
        desk.set(false, 0, 0, 0x00000000_7F800000L, Told.BAD);
        desk.set(false, 0, 0, 0x12345678_FFC00000L, Told.BAD);
        desk.effect(0, Told.GAIN, -1.0);
        desk.makesBits(0, 0x7FF00000_3F800000L, 0xFFFFFFFF_BF800000L);
        desk.makesBits(0, 0x00000000_80000000L, 0L);
        desk.refusesMake(0, 0x00000000_FF800000L, Told.BAD);
        desk.clock(-1L, 1, 0xFFFFFFFF_BF800000L);
        desk.head(0, 0, -1, -1, 0.0);
        desk.set(false, 0, 0, 0xC0000000L, 1);
        desk.plays(0, 1);
        desk.tellsMix(0, 0, 0xFFFFFFFF_C0000000L);
    }

    private void doublesHave64Bits() {
        Desk desk = document.desk();
        desk.row(true, 0, 3, 1);
        desk.set(true, 0, 0, 0x3FF00000_00000001L, 1);
        desk.tellsBits(true, 0, 0, 0x3FF00000_00000001L);
        desk.set(true, 0, 1, 0x80000000_00000000L, 1);
        desk.tellsBits(true, 0, 1, Long.MIN_VALUE);
        // Bits that would be bad ones of a float.
        desk.set(true, 0, 2, 0x00000000_7F800000L, 1);
        desk.tellsBits(true, 0, 2, 0x7F800000L);
        desk.set(true, 0, 2, 0x40000000_FFFFFFFFL, 1);
        desk.tellsBits(true, 0, 2, 0x40000000_FFFFFFFFL);
        // The lowest of 64 alone tells the greatest amount and rate from those that are too great.
        desk.effect(0, Told.GAIN, 0x412E8480_00000000L, 1);
        desk.effect(0, Told.GAIN, 0x412E8480_00000001L, Told.BAD);
        desk.effect(0, Told.GAIN, 0xC12E8480_00000000L, 1);
        desk.track(0, 0.0);
        desk.head(0, 0, -1, -1, 0x40500000_00000000L, 1);
        desk.head(0, 0, -1, -1, 0x40500000_00000001L, Told.BAD);
        desk.head(0, 0, -1, -1, 0x3FE00000_00000001L, 1);
        desk.plays(0, 1);
        desk.isAt(0, Math.nextUp(0.5), 1L);
    }

    private void endlessBitsAreBad() {
        for (boolean wide : BOTH) {
            for (long bits : Told.endless(wide)) {
                bitsAreBad(wide, bits);
            }
        }
        greatestBitsAreNotBad();
    }

    private void bitsOfNoNumberAreBad() {
        for (boolean wide : BOTH) {
            for (long bits : Told.noNumbers(wide)) {
                bitsAreBad(wide, bits);
            }
        }
        greatestBitsAreNotBad();
    }

    private void bitsAreBad(boolean wide, long bits) {
        Desk desk = document.desk();
        desk.items(wide, 0, 3.5);
        desk.set(wide, 0, 0, bits, Told.BAD);
        desk.tellsItem(wide, 0, 0, 3.5);
        desk.effect(0, Told.GAIN, 2.0);
        if (wide) {
            desk.effect(0, Told.CRUSH, bits, Told.BAD);
            desk.effect(1, Told.GAIN, bits, Told.BAD);
            desk.refusesMake(1, 0L, Told.MISSING);
            desk.head(0, 0, -1, -1, bits, Told.BAD);
            desk.refusesAt(0, 0, Told.BAD);
        } else {
            desk.refusesMake(0, bits, Told.BAD);
            desk.refusesMake(0, bits & 0xFFFFFFFFL, Told.BAD);
            desk.refusesMake(0, bits ^ 0x55555555_00000000L, Told.BAD);
        }
        desk.makes(0, 4.0, 8.0);
    }

    private void greatestBitsAreNotBad() {
        Desk desk = document.desk();
        desk.row(false, 0, 2, 1);
        desk.set(false, 0, 0, 0x7F7FFFFFL, 1);
        desk.set(false, 0, 1, 0xFF7FFFFFL, 1);
        desk.tellsBits(false, 0, 0, 0x7F7FFFFFL);
        desk.tellsBits(false, 0, 1, 0xFFFFFFFF_FF7FFFFFL);
        desk.row(true, 0, 2, 1);
        desk.set(true, 0, 0, 0x7FEFFFFF_FFFFFFFFL, 1);
        desk.set(true, 0, 1, 0xFFEFFFFF_FFFFFFFFL, 1);
        desk.tellsBits(true, 0, 0, 0x7FEFFFFF_FFFFFFFFL);
        desk.tellsBits(true, 0, 1, 0xFFEFFFFF_FFFFFFFFL);
    }

    /** Not at a desk, which asks told() after each call. */
    private void has512Calls() {
        LoopMixer mixer = new LoopMixer();
        mixer.row(false, 0, 16);
        mixer.set(false, 0, 15, Told.f(1.0));
        mixer.head(3, 0, -1, -1, Told.d(-1.0));
        for (int call = 4; call <= 508; call++) {
            document.checks.due("call " + call + ", play", mixer.play(3, 64), 64);
        }
        document.checks.due("call 509, at", mixer.at(3, 1), 1);
        document.checks.due("call 510, told", mixer.told(), 505L * 64L);
        document.checks.due("call 511, mix", mixer.mix(1, 3), 1);
        document.checks.due("call 512, told", mixer.told(), 505L * 4L);
    }

    private void heldIsNearest() {
        makes(1.0 + 0x1p-24 - 0x1p-50, 1.0, 1.0);
        makes(1.0 + 0x1p-24 + 0x1p-50, 1.0, 1.0 + 0x1p-23);
        makes(-1.0 - 0x1p-24 - 0x1p-50, 1.0, -1.0 - 0x1p-23);
        makes(1.0 - 0x1p-25 - 0x1p-50, 1.0, 1.0 - 0x1p-24);
        makes(1.0 - 0x1p-25 + 0x1p-50, 1.0, 1.0);
        makes(0.49, Told.SMALLEST, 0.0);
        makes(-0.49, Told.SMALLEST, -0.0);
        makes(0.51, Told.SMALLEST, Told.SMALLEST);
        makes(-0.51, Told.SMALLEST, -Told.SMALLEST);
        makes(1.0 - 0x1p-52, Told.GREATEST, Told.GREATEST);
        makes(1.0 - 0x1p-25 + 0x1p-48, Told.GREATEST, Told.GREATEST);
        makes(1.0 - 0x1p-25 - 0x1p-48, Told.GREATEST, Math.nextDown(Float.MAX_VALUE));
        Desk desk = document.desk();
        desk.track(0, 1.0);
        desk.curve(0, 1.0 + 0x1p-24 + 0x1p-50);
        desk.head(0, 0, 0, -1, 0.0);
        desk.plays(0, 1);
        desk.mixIs(1.0 + 0x1p-23);
        // The even one is farther away than a little less than half a step.
        desk.track(0, 0x1p-24 - 0x1p-48);
        desk.head(0, 0, -1, -1, 0.0);
        desk.plays(0, 1);
        desk.mixIs(1.0 + 0x1p-23);
    }

    private void heldIsEven() {
        makes(1.0 + 0x1p-24, 1.0, 1.0);
        makes(-1.0 - 0x1p-24, 1.0, -1.0);
        makes(1.0 + 0x3p-24, 1.0, 1.0 + 0x1p-22);
        makes(-1.0 - 0x3p-24, 1.0, -1.0 - 0x1p-22);
        makes(1.0 - 0x1p-25, 1.0, 1.0);
        makes(0.5, Told.SMALLEST, 0.0);
        makes(-0.5, Told.SMALLEST, -0.0);
        makes(1.5, Told.SMALLEST, Told.SMALLEST * 2);
        makes(2.5, Told.SMALLEST, Told.SMALLEST * 2);
        Desk desk = document.desk();
        desk.track(0, 1.0, 0x1p-24, 0x3p-24);
        desk.curve(0, 1.0 + 0x1p-24);
        desk.head(0, 0, 0, -1, 0.0);
        desk.plays(0, 2);
        desk.mixIs(1.0, 1.0);
        desk.track(0, 0x1p-24, 0x3p-24);
        desk.head(0, 0, -1, -1, 1.0);
        desk.plays(0, 2);
        desk.mixIs(1.0, 1.0 + 0x1p-22);
    }

    private void heldHasAGreatest() {
        double[] beyond = {1.0 + 0x1p-52, 1.0 + 0x1p-26, 1.0 + 0x1p-25, 1.0 + 0x1p-24, 2.0, 1000000.0};
        for (double times : beyond) {
            makes(times, Told.GREATEST, Told.GREATEST);
            makes(-times, Told.GREATEST, -Told.GREATEST);
            makes(times, -Told.GREATEST, -Told.GREATEST);
        }
        Desk desk = document.desk();
        desk.track(0, Told.GREATEST, -Told.GREATEST);
        desk.curve(0, 1.0 + 0x1p-25, Double.MAX_VALUE);
        desk.head(0, 0, 0, -1, 0.0);
        desk.plays(0, 2);
        desk.head(1, 0, 0, -1, 1.0);
        desk.hush();
        desk.plays(1, 2);
        desk.mixIs(Told.GREATEST, -Told.GREATEST);
        // Half a step beyond the greatest, and far beyond it, in the mix.
        desk.track(0, 0x1p103, -Told.GREATEST);
        desk.head(2, 0, -1, -1, 1.0);
        desk.plays(2, 2);
        desk.mixIs(Told.GREATEST, -Told.GREATEST);
    }

    private void makes(double amount, double s, double want) {
        Desk desk = document.desk();
        desk.effect(0, Told.GAIN, amount);
        desk.makes(0, s, want);
    }

    private void sixHaveRows(boolean curve) {
        Desk desk = document.desk();
        for (int k = 0; k <= 5; k++) {
            desk.items(curve, k, k + 0.5);
        }
        for (int k = 0; k <= 5; k++) {
            desk.tellsItem(curve, k, 0, k + 0.5);
            desk.refusesGet(!curve, k, 0, Told.MISSING);
        }
        for (int k : Told.beside(0, 5)) {
            desk.row(curve, k, 1, Told.BAD);
            desk.refusesGet(curve, k, 0, Told.BAD);
        }
    }

    private void rowsHaveUpTo16(boolean curve) {
        Desk desk = document.desk();
        desk.refusesGet(curve, 0, 0, Told.MISSING);
        desk.row(curve, 0, 0, 1);
        desk.refusesGet(curve, 0, 0, Told.OUTSIDE);
        desk.row(curve, 0, 16, 1);
        for (int i = 0; i < 16; i++) {
            desk.set(curve, 0, i, Told.bits(curve, i + 0.1), 1);
        }
        for (int i = 0; i < 16; i++) {
            desk.tellsItem(curve, 0, i, i + 0.1);
        }
        desk.refusesGet(curve, 0, 16, Told.OUTSIDE);
        desk.row(curve, 1, 17, Told.BAD);
        desk.row(curve, 1, -1, Told.BAD);
        desk.refusesGet(curve, 1, 0, Told.MISSING);
    }

    private void noRowsAtFirst() {
        Desk desk = document.desk();
        for (int k = 0; k <= 5; k++) {
            for (boolean curve : BOTH) {
                desk.refusesGet(curve, k, 0, Told.MISSING);
                desk.share(curve, k, k, 0);
                desk.drop(curve, k, 0);
            }
        }
    }

    private void itemsAreZero() {
        for (boolean curve : BOTH) {
            Desk desk = document.desk();
            desk.row(curve, 2, 16, 1);
            for (int i = 0; i < 16; i++) {
                desk.tellsBits(curve, 2, i, 0L);
            }
            // Of a row that takes another one's place, too.
            desk.items(curve, 2, 1.0, 2.0, 3.0);
            desk.row(curve, 2, 3, 1);
            for (int i = 0; i < 3; i++) {
                desk.tellsBits(curve, 2, i, 0L);
            }
        }
    }

    private void severalHaveOneRow() {
        for (boolean curve : BOTH) {
            Desk desk = document.desk();
            desk.items(curve, 0, 1.0, 2.0);
            for (int k = 1; k <= 5; k++) {
                desk.share(curve, k - 1, k, 1);
            }
            for (int k = 0; k <= 5; k++) {
                desk.set(curve, k, 1, Told.bits(curve, k + 10.0), 1);
                desk.tellsItem(curve, 5 - k, 1, k + 10.0);
            }
        }
    }

    private void missing() {
        Desk desk = document.desk();
        desk.refusesGet(false, 0, 0, Told.MISSING);
        desk.set(true, 5, 0, 0L, Told.MISSING);
        desk.wrap(false, 5, 0, 0, Told.MISSING);
        desk.refusesMake(0, 0L, Told.MISSING);
        desk.hang(0, 0, 0, Told.MISSING);
        desk.take(0, 0, 0, 0, Told.MISSING);
        desk.head(0, 0, -1, -1, 0.0);
        desk.stops(0, 1, 0, Told.MISSING);
    }

    private void outside() {
        Desk desk = document.desk();
        desk.track(0, 1.0);
        desk.refusesGet(false, 0, 1, Told.OUTSIDE);
        desk.set(false, 0, -1, 0L, Told.OUTSIDE);
        desk.wrap(false, 0, 0, 1, Told.OUTSIDE);
        desk.rack(0, 0, 1);
        desk.hang(0, 3, 0, Told.OUTSIDE);
        desk.take(0, -1, 0, 0, Told.OUTSIDE);
        desk.row(false, 0, 0, 1);
        desk.head(0, 0, -1, -1, 0.0);
        desk.stops(0, 1, 0, Told.OUTSIDE);
    }

    private void cast() {
        Desk desk = document.desk();
        desk.effect(0, Told.GAIN, 1.0);
        desk.rack(0, Told.GAIN, 1);
        desk.hang(0, 0, 0, 1);
        desk.take(0, 0, Told.FOLD, 1, Told.CAST);
        desk.take(0, 0, Told.CRUSH, 1, Told.CAST);
        desk.take(0, 0, Told.GAIN, 1, 1);
    }

    private void store() {
        Desk desk = document.desk();
        desk.effect(0, Told.GAIN, 1.0);
        desk.rack(0, Told.FOLD, 1);
        desk.rack(1, Told.CRUSH, 1);
        desk.rack(2, Told.GAIN, 1);
        desk.hang(0, 0, 0, Told.STORE);
        desk.hang(1, 0, 0, Told.STORE);
        desk.hang(2, 0, 0, 1);
    }

    private void failuresAreToldBelowMinusTen() {
        Desk desk = document.desk();
        desk.effect(0, Told.CRUSH, 1.0);
        desk.rack(0, Told.CRUSH, 1);
        desk.rack(1, Told.GAIN, 1);
        desk.hang(0, 0, 0, 1);
        desk.track(0, 1.0, 0.0);
        desk.refusesGet(true, 0, 0, -10 - 1);
        desk.refusesGet(false, 0, 2, -10 - 2);
        desk.take(0, 0, Told.GAIN, 1, -10 - 3);
        desk.hang(1, 0, 0, -10 - 4);
        desk.wrap(false, 0, 0, 1, -10 - 5);
        desk.head(0, 1, -1, -1, 0.0);
        desk.stops(0, 1, 0, -10 - 1);
        desk.row(false, 1, 0, 1);
        desk.stops(0, 1, 0, -10 - 2);
    }

    private void nothingIsThere() {
        Desk desk = document.desk();
        for (int k = 0; k <= 5; k++) {
            desk.refusesGet(false, k, 0, Told.MISSING);
            desk.refusesGet(true, k, 0, Told.MISSING);
            desk.refusesMake(k, 0L, Told.MISSING);
        }
        for (int r = 0; r <= 2; r++) {
            desk.take(r, 0, 0, 0, Told.MISSING);
        }
        for (int h = 0; h <= 3; h++) {
            desk.refusesAt(h, 0, Told.BAD);
            desk.play(h, 0, Told.BAD);
        }
        desk.failed(0);
        desk.told(0L);
    }

    private void newMixIsZero() {
        Desk used = document.desk();
        used.track(0, 1.0);
        used.head(0, 0, -1, -1, 0.0);
        used.plays(0, 8);
        Desk desk = document.desk();
        desk.mixIs();
        used.mixIs(1.0, 1.0, 1.0, 1.0, 1.0, 1.0, 1.0, 1.0);
    }

    private void newClockIsZero() {
        Desk used = document.desk();
        used.clock(5L, 0, 5L);
        Desk desk = document.desk();
        desk.clock(0L, 0, 0L);
        desk.clock(0L, 1, 0L);
        desk.clock(0L, 2, 0L);
        used.clock(0L, 0, 5L);
    }
}
