/** Promises 2 to 7: row, share, drop, set, get, wrap. Tracks and curves are held to the same words. */
final class LoopSentences {
    private static final String ROW = "Promise 2: row";
    private static final String SHARE = "Promise 3: share";
    private static final String DROP = "Promise 4: drop";
    private static final String SET = "Promise 5: set";
    private static final String GET = "Promise 6: get";
    private static final String WRAP = "Promise 7: wrap";

    /** A test of tracks or of curves. */
    private interface OfRows {
        void test(boolean curve);
    }

    private final Sentences document;

    LoopSentences(Sentences document) {
        this.document = document;
    }

    void test() {
        both(ROW, "A TRACK (curve false) or CURVE", this::rowIsOfOneSide);
        both(ROW, "gets a new row", this::rowIsNew);
        both(ROW, "of n (0 .. 16) items: 1.", this::rowHasItsItems);
        both(ROW, "BAD.", this::rowIsBad);

        both(SHARE, "TRACK (CURVE) to gets the very row of from,", this::shareIsOfTheVeryRow);
        both(SHARE, "or none: 1, 0.", this::shareOfNone);
        both(SHARE, "BAD.", this::shareIsBad);

        both(DROP, "It has none any more:", this::dropLeavesNone);
        both(DROP, "whether it had one (1, 0).", this::dropTellsWhetherItHadOne);
        both(DROP, "BAD.", this::dropIsBad);

        both(SET, "Item i of a TRACK or CURVE", this::setChangesOneItem);
        both(SET, "becomes what BITS tell: 1.", this::setKeepsAllBits);
        both(SET, "BAD;", this::setIsBad);
        both(SET, "FAILURES 1, 2.", this::setFails);

        both(GET, "Item i of a TRACK or CURVE is TOLD, by BITS: 1.", this::getTellsEachItem);
        both(GET, "BAD;", this::getIsBad);
        both(GET, "FAILURES 1, 2.", this::getFails);

        both(WRAP, "Item i of a TRACK or CURVE becomes its rest by item j", this::wrapIsARest);
        document.test(WRAP, "(of its width): 1.", this::wrapIsOfItsWidth);
        both(WRAP, "BAD;", this::wrapIsBad);
        both(WRAP, "FAILURES 1, 2;", this::wrapFails);
        both(WRAP, "5, if item j is 0.", this::wrapByZero);
    }

    private void both(String heading, String words, OfRows rows) {
        document.test(heading, words, () -> {
            rows.test(false);
            rows.test(true);
        });
    }

    private void rowIsOfOneSide(boolean curve) {
        Desk desk = document.desk();
        desk.row(curve, 3, 2, 1);
        desk.tellsItem(curve, 3, 1, 0.0);
        desk.refusesGet(!curve, 3, 1, Told.MISSING);
        desk.items(!curve, 3, 0.75);
        desk.row(curve, 3, 4, 1);
        desk.tellsItem(!curve, 3, 0, 0.75);
        desk.refusesGet(!curve, 3, 1, Told.OUTSIDE);
    }

    private void rowIsNew(boolean curve) {
        Desk desk = document.desk();
        desk.items(curve, 0, 1.0, 2.0);
        desk.share(curve, 0, 1, 1);
        desk.row(curve, 0, 2, 1);
        desk.tellsItem(curve, 0, 0, 0.0);
        desk.tellsItem(curve, 0, 1, 0.0);
        desk.tellsItem(curve, 1, 0, 1.0);
        desk.tellsItem(curve, 1, 1, 2.0);
        desk.set(curve, 0, 1, Told.bits(curve, 9.0), 1);
        desk.tellsItem(curve, 1, 1, 2.0);
    }

    private void rowHasItsItems(boolean curve) {
        for (int n = 0; n <= 16; n++) {
            Desk desk = document.desk();
            desk.row(curve, 5, n, 1);
            for (int i = 0; i < n; i++) {
                desk.tellsItem(curve, 5, i, 0.0);
            }
            desk.refusesGet(curve, 5, n, Told.OUTSIDE);
            desk.row(curve, 5, 16 - n, 1);
            desk.refusesGet(curve, 5, 16 - n, Told.OUTSIDE);
            desk.drop(curve, 5, 1);
        }
    }

    private void rowIsBad(boolean curve) {
        Desk desk = document.desk();
        desk.items(curve, 0, 0.0, 2.5);
        for (int k : Told.beside(0, 5)) {
            desk.row(curve, k, 3, Told.BAD);
            desk.row(curve, k, 17, Told.BAD);
        }
        for (int n : Told.beside(0, 16)) {
            desk.row(curve, 0, n, Told.BAD);
            desk.row(curve, 1, n, Told.BAD);
        }
        desk.tellsItem(curve, 0, 1, 2.5);
        desk.refusesGet(curve, 0, 2, Told.OUTSIDE);
        desk.refusesGet(curve, 1, 0, Told.MISSING);
    }

    private void shareIsOfTheVeryRow(boolean curve) {
        Desk desk = document.desk();
        desk.items(curve, 0, 1.0, 2.0);
        desk.items(curve, 5, 8.0);
        desk.items(!curve, 5, 6.0);
        desk.share(curve, 0, 5, 1);
        desk.set(curve, 5, 1, Told.bits(curve, -3.25), 1);
        desk.tellsItem(curve, 0, 1, -3.25);
        desk.wrap(curve, 0, 1, 0, 1);
        desk.tellsItem(curve, 5, 1, -0.25);
        desk.share(curve, 5, 5, 1);
        desk.tellsItem(curve, 5, 1, -0.25);
        desk.drop(curve, 0, 1);
        desk.tellsItem(curve, 5, 1, -0.25);
        desk.tellsItem(!curve, 5, 0, 6.0);
        desk.row(curve, 1, 0, 1);
        desk.share(curve, 1, 2, 1);
        desk.refusesGet(curve, 2, 0, Told.OUTSIDE);
    }

    private void shareOfNone(boolean curve) {
        Desk desk = document.desk();
        desk.items(curve, 5, 8.0);
        desk.items(!curve, 4, 8.0);
        desk.share(curve, 4, 5, 0);
        desk.refusesGet(curve, 5, 0, Told.MISSING);
        desk.share(curve, 4, 5, 0);
        desk.share(curve, 4, 4, 0);
        desk.tellsItem(!curve, 4, 0, 8.0);
    }

    private void shareIsBad(boolean curve) {
        Desk desk = document.desk();
        desk.items(curve, 0, 1.0);
        desk.items(curve, 5, 2.0);
        for (int k : Told.beside(0, 5)) {
            desk.share(curve, k, 0, Told.BAD);
            desk.share(curve, k, 5, Told.BAD);
            desk.share(curve, 0, k, Told.BAD);
            desk.share(curve, 3, k, Told.BAD);
            desk.share(curve, k, k, Told.BAD);
        }
        desk.tellsItem(curve, 0, 0, 1.0);
        desk.tellsItem(curve, 5, 0, 2.0);
    }

    private void dropLeavesNone(boolean curve) {
        Desk desk = document.desk();
        desk.items(curve, 0, 1.0);
        desk.items(curve, 1, 2.0);
        desk.items(!curve, 0, 3.0);
        desk.share(curve, 0, 5, 1);
        desk.drop(curve, 0, 1);
        desk.refusesGet(curve, 0, 0, Told.MISSING);
        desk.set(curve, 0, 0, 0L, Told.MISSING);
        desk.tellsItem(curve, 1, 0, 2.0);
        desk.tellsItem(!curve, 0, 0, 3.0);
        desk.tellsItem(curve, 5, 0, 1.0);
    }

    private void dropTellsWhetherItHadOne(boolean curve) {
        Desk desk = document.desk();
        for (int k = 0; k <= 5; k++) {
            desk.drop(curve, k, 0);
            desk.row(curve, k, k == 0 ? 0 : 16, 1);
            desk.drop(curve, k, 1);
            desk.drop(curve, k, 0);
        }
    }

    private void dropIsBad(boolean curve) {
        Desk desk = document.desk();
        desk.items(curve, 0, 1.0);
        desk.items(curve, 5, 2.0);
        for (int k : Told.beside(0, 5)) {
            desk.drop(curve, k, Told.BAD);
        }
        desk.tellsItem(curve, 0, 0, 1.0);
        desk.tellsItem(curve, 5, 0, 2.0);
    }

    private void setChangesOneItem(boolean curve) {
        for (int i = 0; i < 16; i++) {
            Desk desk = document.desk();
            desk.row(curve, 2, 16, 1);
            desk.row(!curve, 2, 16, 1);
            desk.set(curve, 2, i, Told.bits(curve, 0.1), 1);
            for (int at = 0; at < 16; at++) {
                desk.tellsItem(curve, 2, at, at == i ? 0.1 : 0.0);
            }
            desk.tellsItem(!curve, 2, i, 0.0);
        }
    }

    /** Each exponent with fractions at their ends and amid, of both signs. */
    private void setKeepsAllBits(boolean curve) {
        int greatest = curve ? 0x7FE : 0xFE;
        int width = curve ? 52 : 23;
        long all = (1L << width) - 1L;
        long[] fractions = {0L, 1L, all, 0x5555555555555L & all, 1L << width - 1, all - 1L};
        for (int exponent = 0; exponent <= greatest; exponent++) {
            Desk desk = document.desk();
            desk.row(curve, 3, 12, 1);
            for (int i = 0; i < 12; i++) {
                long size = ((long) exponent << width) + fractions[i / 2];
                long signed = curve ? size | 1L << 63 : (int) (size | 1L << 31);
                desk.set(curve, 3, i, i % 2 == 0 ? size : signed, 1);
                desk.tellsBits(curve, 3, i, i % 2 == 0 ? size : signed);
            }
        }
    }

    private void setIsBad(boolean curve) {
        Desk desk = document.desk();
        desk.items(curve, 0, 4.0);
        for (int k : Told.beside(0, 5)) {
            desk.set(curve, k, 0, 0L, Told.BAD);
            desk.set(curve, k, 99, 0L, Told.BAD);
        }
        for (long bits : Told.badBits(curve)) {
            desk.set(curve, 0, 0, bits, Told.BAD);
            // Looked for before the failures.
            desk.set(curve, 0, 1, bits, Told.BAD);
            desk.set(curve, 0, -1, bits, Told.BAD);
            desk.set(curve, 1, 0, bits, Told.BAD);
        }
        desk.tellsItem(curve, 0, 0, 4.0);
    }

    private void setFails(boolean curve) {
        Desk desk = document.desk();
        desk.items(curve, 0, 3.0, 4.0);
        desk.row(curve, 1, 0, 1);
        desk.row(curve, 2, 16, 1);
        desk.set(curve, 5, 0, 0L, Told.MISSING);
        desk.set(curve, 5, -1, 0L, Told.MISSING);
        desk.set(curve, 5, 99, 0L, Told.MISSING);
        desk.set(curve, 1, 0, 0L, Told.OUTSIDE);
        desk.set(curve, 1, -1, 0L, Told.OUTSIDE);
        for (int i : Told.beside(0, 1)) {
            desk.set(curve, 0, i, 0L, Told.OUTSIDE);
        }
        for (int i : Told.beside(0, 15)) {
            desk.set(curve, 2, i, 0L, Told.OUTSIDE);
        }
        desk.tellsItem(curve, 0, 0, 3.0);
        desk.tellsItem(curve, 0, 1, 4.0);
    }

    private void getTellsEachItem(boolean curve) {
        Desk desk = document.desk();
        double[] items = {0.0, -0.0, 0.1, -0.1, 1e-45, -1e-45, 1e38, -1e38, 1.0, 2.0, 3.0, 4.0, 5.0, 6.0, 7.0, 8.0};
        desk.items(curve, 4, items);
        for (int i = 15; i >= 0; i--) {
            desk.tellsItem(curve, 4, i, items[i]);
        }
        desk.tellsBits(curve, 4, 8, curve ? 0x3FF00000_00000000L : 0x3F800000L);
        desk.tellsBits(curve, 4, 1, curve ? 0x80000000_00000000L : 0xFFFFFFFF_80000000L);
    }

    private void getIsBad(boolean curve) {
        Desk desk = document.desk();
        desk.items(curve, 0, 4.0);
        desk.items(curve, 5, 5.0);
        desk.tellsItem(curve, 5, 0, 5.0);
        for (int k : Told.beside(0, 5)) {
            desk.refusesGet(curve, k, 0, Told.BAD);
            desk.refusesGet(curve, k, -1, Told.BAD);
        }
    }

    private void getFails(boolean curve) {
        Desk desk = document.desk();
        desk.items(curve, 0, 3.0, 4.0);
        desk.row(curve, 1, 0, 1);
        desk.row(curve, 2, 16, 1);
        desk.tellsItem(curve, 0, 1, 4.0);
        desk.refusesGet(curve, 5, 0, Told.MISSING);
        desk.refusesGet(curve, 5, -1, Told.MISSING);
        desk.refusesGet(curve, 5, 99, Told.MISSING);
        desk.refusesGet(curve, 1, 0, Told.OUTSIDE);
        desk.refusesGet(curve, 1, -1, Told.OUTSIDE);
        for (int i : Told.beside(0, 1)) {
            desk.refusesGet(curve, 0, i, Told.OUTSIDE);
        }
        for (int i : Told.beside(0, 15)) {
            desk.refusesGet(curve, 2, i, Told.OUTSIDE);
        }
    }

    private void wrapIsARest(boolean curve) {
        wrapsTo(curve, 7.5, 2.0, 1.5);
        wrapsTo(curve, -7.5, 2.0, -1.5);
        wrapsTo(curve, 7.5, -2.0, 1.5);
        wrapsTo(curve, -7.5, -2.0, -1.5);
        wrapsTo(curve, 6.0, 2.0, 0.0);
        wrapsTo(curve, -6.0, 2.0, -0.0);
        wrapsTo(curve, 0.0, -2.0, 0.0);
        wrapsTo(curve, -0.0, 2.0, -0.0);
        wrapsTo(curve, 1.5, 2.0, 1.5);
        wrapsTo(curve, -1.5, 1.5, -0.0);
        wrapsTo(curve, 7.75, 0.5, 0.25);
        wrapsTo(curve, -3.0, 0.5, -0.0);
        wrapsTo(curve, 7.75, 1.0, 0.75);
        restsOfTheEnds(curve);
        Desk desk = document.desk();
        desk.items(curve, 0, -7.5, 2.0, 5.0);
        desk.wrap(curve, 0, 0, 0, 1);
        desk.tellsItem(curve, 0, 0, -0.0);
        desk.wrap(curve, 0, 2, 1, 1);
        desk.tellsItem(curve, 0, 2, 1.0);
        desk.tellsItem(curve, 0, 1, 2.0);
    }

    private void wrapsTo(boolean curve, double item, double by, double rest) {
        Desk desk = document.desk();
        desk.items(curve, 0, item, by);
        desk.wrap(curve, 0, 0, 1, 1);
        desk.tellsItem(curve, 0, 0, rest);
        desk.tellsItem(curve, 0, 1, by);
    }

    /** The greatest and smallest numbers of each width, by one another, as Java's own % has them. */
    private void restsOfTheEnds(boolean curve) {
        double[] ends = curve
            ? new double[] {Double.MAX_VALUE, Double.MIN_VALUE, Double.MIN_NORMAL, 0x1.fffffffffffffp-1023, 1e300, 0.1,
                1.5e-323, 3.0}
            : new double[] {Float.MAX_VALUE, Float.MIN_VALUE, Float.MIN_NORMAL, 0x1.fffffcp-127f, 1e30f, 0.1f,
                4.2e-45f, 3.0};
        for (double item : ends) {
            for (double by : ends) {
                wrapsTo(curve, item, by, item % by);
                wrapsTo(curve, -item, by, -item % by);
                wrapsTo(curve, item, -by, item % -by);
            }
        }
    }

    private void wrapIsOfItsWidth() {
        Desk desk = document.desk();
        desk.track(0, 1.0, 0.1);
        desk.wrap(false, 0, 0, 1, 1);
        // As 0.1 is a little more than a tenth in both, nine of it fit, and nearly 0.1 is left.
        desk.tellsBits(false, 0, 0, 0x3DCCCCCBL);
        desk.curve(0, 1.0, 0.1);
        desk.wrap(true, 0, 0, 1, 1);
        desk.tellsBits(true, 0, 0, 0x3FB99999_99999996L);
    }

    private void wrapIsBad(boolean curve) {
        Desk desk = document.desk();
        desk.items(curve, 0, 5.0, 3.0);
        desk.items(curve, 5, 5.0, 3.0);
        for (int k : Told.beside(0, 5)) {
            desk.wrap(curve, k, 0, 1, Told.BAD);
            desk.wrap(curve, k, 9, 9, Told.BAD);
        }
        desk.tellsItem(curve, 0, 0, 5.0);
        desk.tellsItem(curve, 5, 0, 5.0);
    }

    private void wrapFails(boolean curve) {
        Desk desk = document.desk();
        desk.items(curve, 0, 5.0, 3.0, 0.0);
        desk.row(curve, 1, 0, 1);
        desk.wrap(curve, 5, 0, 1, Told.MISSING);
        desk.wrap(curve, 5, 9, -9, Told.MISSING);
        desk.wrap(curve, 1, 0, 0, Told.OUTSIDE);
        for (int i : Told.beside(0, 2)) {
            desk.wrap(curve, 0, i, 1, Told.OUTSIDE);
            desk.wrap(curve, 0, 0, i, Told.OUTSIDE);
            desk.wrap(curve, 0, i, i, Told.OUTSIDE);
            // Looked for before failure 5.
            desk.wrap(curve, 0, i, 2, Told.OUTSIDE);
        }
        desk.tellsItem(curve, 0, 0, 5.0);
        desk.tellsItem(curve, 0, 1, 3.0);
    }

    private void wrapByZero(boolean curve) {
        Desk desk = document.desk();
        desk.items(curve, 0, 5.0, 0.0, -0.0, -5.0);
        for (int i = 0; i < 4; i++) {
            desk.wrap(curve, 0, i, 1, Told.BY_ZERO);
            desk.wrap(curve, 0, i, 2, Told.BY_ZERO);
        }
        desk.tellsItem(curve, 0, 0, 5.0);
        desk.tellsItem(curve, 0, 1, 0.0);
        desk.tellsItem(curve, 0, 2, -0.0);
        desk.tellsItem(curve, 0, 3, -5.0);
        desk.set(curve, 0, 1, 1L, 1);
        desk.wrap(curve, 0, 0, 1, 1);
        desk.tellsItem(curve, 0, 0, 0.0);
    }
}
