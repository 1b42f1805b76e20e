/** Promises 16, 17, 19 and 20: mix, hush, clock, told. */
final class TellingSentences {
    private static final String MIX = "Promise 16: mix";
    private static final String HUSH = "Promise 17: hush";
    private static final String CLOCK = "Promise 19: clock";
    private static final String TOLD = "Promise 20: told";

    private final Sentences document;

    TellingSentences(Sentences document) {
        this.document = document;
    }

    void test() {
        document.test(MIX, "Item i (0 .. 7) of THE MIX is TOLD:", this::mixTellsEachItem);
        document.test(MIX, "how = 0 by BITS;", this::mixByBits);
        document.test(MIX, "1 times 32767.0 (a double) cut to an int;", this::mixAsAnInt);
        document.test(MIX, "2 that int's lowest 16 bits with a sign;", this::mixAs16Bits);
        document.test(MIX, "3 the item itself cut to a long: 1.", this::mixAsALong);
        document.test(MIX, "BAD.", this::mixIsBad);

        document.test(HUSH, "THE MIX is 0.0: 1.", this::hushClearsTheMix);

        document.test(CLOCK, "THE CLOCK (a long) is n more", this::clockIsMore);
        document.test(CLOCK, "(running over),", this::clockRunsOver);
        document.test(CLOCK, "and TOLD: how = 0 it,", this::clockItself);
        document.test(CLOCK, "1 as a float's BITS,", this::clockAsAFloat);
        document.test(CLOCK, "2 as a double's,", this::clockAsADouble);
        document.test(CLOCK, "3 as a float cut to a long again,", this::clockAsAFloatToALong);
        document.test(CLOCK, "4 as a double cut to a long,", this::clockAsADoubleToALong);
        document.test(CLOCK, "5 as a float cut to an int: 1.", this::clockAsAFloatToAnInt);
        document.test(CLOCK, "BAD: how.", this::clockIsBad);

        document.test(TOLD, "What was TOLD latest;", this::toldIsTheLatest);
        document.test(TOLD, "0 at first.", this::toldIsZeroAtFirst);
    }

    /** A desk with these items in the mix from 0 on. */
    private Desk mixed(double... items) {
        Desk desk = document.desk();
        desk.track(0, items);
        desk.head(0, 0, -1, -1, 1.0);
        desk.plays(0, items.length);
        return desk;
    }

    /** An item in the mix is told in one way as this. */
    private void tells(int how, double item, long want) {
        mixed(item).tellsMix(0, how, want);
    }

    private void mixTellsEachItem() {
        Desk desk = mixed(1.0, 2.0, 3.0, 4.0, 5.0, 6.0, 7.0, 8.0);
        for (int i = 0; i <= 7; i++) {
            desk.tellsMix(i, 3, i + 1);
            desk.tellsMix(i, 0, Told.f(i + 1));
        }
        desk.refusesMix(8, 0, Told.BAD);
        desk.refusesMix(-1, 0, Told.BAD);
    }

    private void mixByBits() {
        tells(0, 0.5, 0x3F000000L);
        tells(0, -0.5, 0xFFFFFFFF_BF000000L);
        tells(0, -0.0, 0L);
        tells(0, Told.SMALLEST, 1L);
        tells(0, -Told.SMALLEST, 0xFFFFFFFF_80000001L);
        tells(0, Told.GREATEST, 0x7F7FFFFFL);
        tells(0, -Told.GREATEST, 0xFFFFFFFF_FF7FFFFFL);
    }

    private void mixAsAnInt() {
        tells(1, 1.0, 32767L);
        tells(1, -1.0, -32767L);
        tells(1, 0.5, 16383L);
        tells(1, -0.5, -16383L);
        tells(1, 0.00003, 0L);
        tells(1, -0.00003, 0L);
        tells(1, Told.SMALLEST, 0L);
        // As floats, the product would be 3.0.
        tells(1, 9.155553E-5, 2L);
        tells(1, 65538.0, 2147483646L);
        tells(1, 65538.0078125, 2147483647L);
        tells(1, -65538.0, -2147483646L);
        tells(1, -65538.0078125, -2147483648L);
        tells(1, Told.GREATEST, 2147483647L);
        tells(1, -Told.GREATEST, -2147483648L);
    }

    private void mixAs16Bits() {
        tells(2, 1.0, 32767L);
        tells(2, -1.0, -32767L);
        tells(2, 0.5, 16383L);
        tells(2, -0.5, -16383L);
        // 32768 and 32769 of either sign.
        tells(2, 1.000031, -32768L);
        tells(2, -1.000031, -32768L);
        tells(2, 1.00007, -32767L);
        tells(2, -1.00007, 32767L);
        tells(2, 2.0, -2L);
        tells(2, 65536.0, 0L);
        tells(2, 65538.0, -2L);
        // Of the greatest and of the least int.
        tells(2, 65540.0, -1L);
        tells(2, -65540.0, 0L);
        tells(2, Told.GREATEST, -1L);
        tells(2, -Told.GREATEST, 0L);
    }

    private void mixAsALong() {
        tells(3, 0.99, 0L);
        tells(3, -0.99, 0L);
        tells(3, 1.0, 1L);
        tells(3, -1.99, -1L);
        tells(3, 3e9, 3000000000L);
        tells(3, -3e9, -3000000000L);
        tells(3, Math.nextDown(0x1p63f), 9223371487098961920L);
        tells(3, 0x1p63, Long.MAX_VALUE);
        tells(3, -0x1p63, Long.MIN_VALUE);
        tells(3, Math.nextDown(-0x1p63f), Long.MIN_VALUE);
        tells(3, Told.GREATEST, Long.MAX_VALUE);
        tells(3, -Told.GREATEST, Long.MIN_VALUE);
    }

    private void mixIsBad() {
        Desk desk = mixed(0.5);
        desk.tellsMix(0, 1, 16383L);
        for (int how = 0; how <= 3; how++) {
            for (int i : Told.beside(0, 7)) {
                desk.refusesMix(i, how, Told.BAD);
            }
        }
        for (int how : Told.beside(0, 3)) {
            desk.refusesMix(0, how, Told.BAD);
            desk.refusesMix(7, how, Told.BAD);
        }
    }

    private void hushClearsTheMix() {
        Desk desk = mixed(1.0, -2.0, 3.0, Told.GREATEST, -Told.GREATEST, 6.0, 7.0, Told.SMALLEST);
        desk.clock(77L, 0, 77L);
        desk.hush();
        desk.mixIs();
        desk.hush();
        desk.mixIs();
        // Nothing else is changed.
        desk.isAt(0, 0.0, 8L);
        desk.tellsItem(false, 0, 1, -2.0);
        desk.clock(0L, 0, 77L);
        desk.plays(0, 1);
        desk.mixIs(1.0);
    }

    private void clockIsMore() {
        Desk desk = document.desk();
        desk.clock(3L, 0, 3L);
        desk.clock(4L, 0, 7L);
        desk.clock(-10L, 0, -3L);
        desk.clock(0L, 0, -3L);
        desk.clock(0x100000000L, 0, 0xFFFFFFFDL);
        // However it is told.
        for (int how = 0; how <= 5; how++) {
            Desk other = document.desk();
            other.clock(16777216L, 0, 16777216L);
            long[] told = {16777217L, 0x4B800000L, 0x41700000_10000000L, 16777216L, 16777217L, 16777216L};
            other.clock(1L, how, told[how]);
            other.clock(1L, 0, 16777218L);
        }
    }

    private void clockRunsOver() {
        Desk desk = document.desk();
        desk.clock(Long.MAX_VALUE, 0, Long.MAX_VALUE);
        desk.clock(1L, 0, Long.MIN_VALUE);
        desk.clock(-1L, 0, Long.MAX_VALUE);
        desk.clock(Long.MAX_VALUE, 0, -2L);
        desk.clock(Long.MIN_VALUE, 0, Long.MAX_VALUE - 1L);
        desk.clock(Long.MIN_VALUE, 0, -2L);
        desk.clock(Long.MAX_VALUE, 1, 0x5F000000L);
        desk.clock(3L, 2, 0xC3E00000_00000000L);
    }

    private void clockItself() {
        for (long time : new long[] {0L, 1L, -1L, 9007199254740993L, Long.MAX_VALUE, Long.MIN_VALUE}) {
            clockTells(time, 0, time);
        }
    }

    private void clockTells(long time, int how, long want) {
        Desk desk = document.desk();
        desk.clock(time, how, want);
        desk.clock(0L, how, want);
        desk.clock(0L, 0, time);
    }

    private void clockAsAFloat() {
        clockTells(0L, 1, 0L);
        clockTells(1L, 1, 0x3F800000L);
        clockTells(-1L, 1, 0xFFFFFFFF_BF800000L);
        clockTells(16777216L, 1, 0x4B800000L);
        clockTells(16777217L, 1, 0x4B800000L);
        clockTells(16777218L, 1, 0x4B800001L);
        clockTells(16777219L, 1, 0x4B800002L);
        clockTells(-16777219L, 1, 0xFFFFFFFF_CB800002L);
        // As a double first, it would be halfway, and the even one is the lower one.
        clockTells(0x10000010_00000001L, 1, 0x5D800001L);
        clockTells(Long.MAX_VALUE, 1, 0x5F000000L);
        clockTells(Long.MIN_VALUE, 1, 0xFFFFFFFF_DF000000L);
    }

    private void clockAsADouble() {
        clockTells(0L, 2, 0L);
        clockTells(1L, 2, 0x3FF00000_00000000L);
        clockTells(-1L, 2, 0xBFF00000_00000000L);
        clockTells(16777217L, 2, 0x41700000_10000000L);
        clockTells(9007199254740992L, 2, 0x43400000_00000000L);
        clockTells(9007199254740993L, 2, 0x43400000_00000000L);
        clockTells(9007199254740995L, 2, 0x43400000_00000002L);
        clockTells(Long.MAX_VALUE, 2, 0x43E00000_00000000L);
        clockTells(Long.MIN_VALUE, 2, 0xC3E00000_00000000L);
    }

    private void clockAsAFloatToALong() {
        clockTells(16777217L, 3, 16777216L);
        clockTells(16777219L, 3, 16777220L);
        clockTells(-16777219L, 3, -16777220L);
        clockTells(2147483647L, 3, 2147483648L);
        clockTells(0x10000010_00000001L, 3, 0x10000020_00000000L);
        clockTells(0x7FFFFFBF_FFFFFFFFL, 3, 0x7FFFFF80_00000000L);
        clockTells(0x7FFFFFC0_00000000L, 3, Long.MAX_VALUE);
        clockTells(Long.MAX_VALUE, 3, Long.MAX_VALUE);
        clockTells(Long.MIN_VALUE, 3, Long.MIN_VALUE);
    }

    private void clockAsADoubleToALong() {
        clockTells(16777217L, 4, 16777217L);
        clockTells(9007199254740993L, 4, 9007199254740992L);
        clockTells(9007199254740995L, 4, 9007199254740996L);
        clockTells(-9007199254740995L, 4, -9007199254740996L);
        clockTells(Long.MAX_VALUE - 512L, 4, Long.MAX_VALUE - 1023L);
        clockTells(Long.MAX_VALUE - 511L, 4, Long.MAX_VALUE);
        clockTells(Long.MAX_VALUE, 4, Long.MAX_VALUE);
        clockTells(Long.MIN_VALUE, 4, Long.MIN_VALUE);
    }

    private void clockAsAFloatToAnInt() {
        clockTells(16777217L, 5, 16777216L);
        clockTells(-16777219L, 5, -16777220L);
        clockTells(2147483583L, 5, 2147483520L);
        clockTells(2147483584L, 5, 2147483647L);
        clockTells(2147483647L, 5, 2147483647L);
        clockTells(2147483648L, 5, 2147483647L);
        clockTells(-2147483648L, 5, -2147483648L);
        clockTells(-2147484000L, 5, -2147483648L);
        clockTells(Long.MAX_VALUE, 5, 2147483647L);
        clockTells(Long.MIN_VALUE, 5, -2147483648L);
    }

    private void clockIsBad() {
        Desk desk = document.desk();
        desk.clock(9L, 0, 9L);
        for (int how : Told.beside(0, 5)) {
            desk.refusesClock(100L, how, Told.BAD);
        }
        desk.clock(1L, 0, 10L);
    }

    /** At a desk told() is asked after each call: here after all that tell, and after all that do not. */
    private void toldIsTheLatest() {
        Desk desk = mixed(0.5);
        desk.effect(0, Told.GAIN, 2.0);
        desk.told(0L);
        desk.tellsItem(false, 0, 0, 0.5);
        desk.told(0x3F000000L);
        desk.makes(0, 3.0, 6.0);
        desk.tellsMix(0, 3, 0L);
        desk.isAt(0, 0.0, 1L);
        desk.clock(-7L, 0, -7L);
        desk.plays(0, 3);
        desk.rackOf(0, Told.GAIN, 0, 0, 0);
        desk.take(0, 0, Told.GAIN, 1, 1);
        desk.head(1, 0, -1, -1, 0.0);
        desk.hush();
        desk.wrap(false, 0, 0, 0, 1);
        desk.share(false, 0, 1, 1);
        desk.drop(false, 0, 1);
        desk.told(-7L);
        // Refused, all that tell leave it.
        desk.refusesGet(false, 0, 0, Told.MISSING);
        desk.refusesGet(false, 1, 9, Told.OUTSIDE);
        desk.refusesGet(false, 6, 0, Told.BAD);
        desk.refusesMake(5, 0L, Told.MISSING);
        desk.refusesMake(6, 0L, Told.BAD);
        desk.refusesMix(8, 0, Told.BAD);
        desk.refusesAt(3, 0, Told.BAD);
        desk.refusesClock(1L, 6, Told.BAD);
        desk.told(-7L);
    }

    private void toldIsZeroAtFirst() {
        Desk desk = document.desk();
        desk.told(0L);
        desk.refusesGet(false, 0, 0, Told.MISSING);
        desk.refusesClock(5L, 6, Told.BAD);
        desk.track(0, 4.0);
        desk.told(0L);
    }
}
