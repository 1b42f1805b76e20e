/** Promises 1, 16, 17, 19 and 20: a new object, mix, hush, clock, told. */
public final class MixAndClockTest {
    private static final Checks CHECKS = new Checks();

    public static void main(String[] args) {
        aNewObjectHasNothing();
        mixIsToldInFourWays();
        mixRefusesWhatIsBad();
        hushLeavesTheRest();
        clockIsToldInSixWays();
        clockRunsOver();
        clockRefusesWhatIsBad();
        toldIsTheLatest();
        CHECKS.end();
    }

    private static void aNewObjectHasNothing() {
        LoopMixer x = new LoopMixer();
        CHECKS.due("BAD", LoopMixer.BAD, -1);
        CHECKS.due("told()", x.told(), 0L);
        CHECKS.due("failed()", x.failed(), 0);
        for (int k = 0; k < 6; k++) {
            CHECKS.due("drop of a track", x.drop(false, k), 0);
            CHECKS.due("drop of a curve", x.drop(true, k), 0);
            CHECKS.due("make", x.make(k, 0L), Told.MISSING);
        }
        for (int r = 0; r < 3; r++) {
            CHECKS.due("take", x.take(r, 0, 0, 0), Told.MISSING);
        }
        for (int h = 0; h < 4; h++) {
            CHECKS.due("at", x.at(h, 0), Told.BAD);
        }
        CHECKS.due("told() after refusals", x.told(), 0L);
        x.clock(5L, 0);
        for (int i = 0; i < 8; i++) {
            CHECKS.tells(x, "mix", x.mix(i, 0), 0L);
        }
        LoopMixer y = new LoopMixer();
        CHECKS.tells(y, "clock of another object", y.clock(0L, 0), 0L);
    }

    /** Puts these items into the mix of a new object, from 0 on. */
    private static LoopMixer mixed(double... items) {
        LoopMixer x = new LoopMixer();
        x.row(false, 0, items.length);
        for (int i = 0; i < items.length; i++) {
            CHECKS.due("set", x.set(false, 0, i, Told.f(items[i])), 1);
        }
        x.head(0, 0, -1, -1, Told.d(1.0));
        CHECKS.due("play", x.play(0, items.length), items.length);
        return x;
    }

    private static void mixIsToldInFourWays() {
        double[] items = {0.5, -0.5, 1.0, -1.0, 2.5, -70000.0, 3e38, -3e38};
        LoopMixer x = mixed(items);
        for (int i = 0; i < 8; i++) {
            float item = (float) items[i];
            CHECKS.tells(x, "mix of " + item + ", 0", x.mix(i, 0), Told.f(item));
            CHECKS.tells(x, "mix of " + item + ", 1", x.mix(i, 1), (int) (item * 32767.0));
            CHECKS.tells(x, "mix of " + item + ", 2", x.mix(i, 2), (short) (int) (item * 32767.0));
            CHECKS.tells(x, "mix of " + item + ", 3", x.mix(i, 3), (long) item);
        }
        CHECKS.tells(x, "mix of 0.5, 1", x.mix(0, 1), 16383L);
        CHECKS.tells(x, "mix of -0.5, 1", x.mix(1, 1), -16383L);
        CHECKS.tells(x, "mix of 2.5, 2", x.mix(4, 2), 16381L);
        CHECKS.tells(x, "mix of -70000, 2", x.mix(5, 2), 0L);
        CHECKS.tells(x, "mix of 3e38, 1", x.mix(6, 1), Integer.MAX_VALUE);
        CHECKS.tells(x, "mix of 3e38, 2", x.mix(6, 2), -1L);
        CHECKS.tells(x, "mix of 3e38, 3", x.mix(6, 3), Long.MAX_VALUE);
        CHECKS.tells(x, "mix of -3e38, 1", x.mix(7, 1), Integer.MIN_VALUE);
        CHECKS.tells(x, "mix of -3e38, 2", x.mix(7, 2), 0L);
        CHECKS.tells(x, "mix of -3e38, 3", x.mix(7, 3), Long.MIN_VALUE);
        LoopMixer y = mixed(9.155553E-5, 1.5, -1.5, 65536.9);
        // As floats, the product would be 3.0.
        CHECKS.tells(y, "mix of 9.155553E-5, 1", y.mix(0, 1), 2L);
        CHECKS.tells(y, "mix of 1.5, 2", y.mix(1, 2), -16386L);
        CHECKS.tells(y, "mix of -1.5, 2", y.mix(2, 2), 16386L);
        CHECKS.tells(y, "mix of 65536.9, 3", y.mix(3, 3), 65536L);
    }

    private static void mixRefusesWhatIsBad() {
        LoopMixer x = mixed(0.5);
        CHECKS.tells(x, "mix", x.mix(0, 1), 16383L);
        for (int i : new int[] {-1, 8, Integer.MIN_VALUE, Integer.MAX_VALUE}) {
            CHECKS.refuses(x, "mix of " + i, () -> x.mix(i, 0), Told.BAD);
        }
        for (int how : new int[] {-1, 4, Integer.MIN_VALUE, Integer.MAX_VALUE}) {
            CHECKS.refuses(x, "mix told by " + how, () -> x.mix(0, how), Told.BAD);
        }
    }

    private static void hushLeavesTheRest() {
        LoopMixer x = mixed(1.0, 2.0, 3.0, 4.0, 5.0, 6.0, 7.0, -8.0);
        x.clock(77L, 0);
        CHECKS.refuses(x, "hush", x::hush, 1);
        for (int i = 0; i < 8; i++) {
            CHECKS.tells(x, "mix", x.mix(i, 0), 0L);
        }
        CHECKS.tells(x, "at", x.at(0, 1), 8L);
        CHECKS.tells(x, "get", x.get(false, 0, 1), Told.f(2.0));
        CHECKS.tells(x, "clock", x.clock(0L, 0), 77L);
        CHECKS.due("play", x.play(0, 1), 1);
        CHECKS.tells(x, "mix", x.mix(0, 0), Told.f(1.0));
    }

    private static void clockIsToldInSixWays() {
        long[] times = {0L, 1L, -1L, 16777217L, 16777219L, -16777219L, 2147483647L, 2147483648L, -2147483649L,
            9007199254740993L, -9007199254740993L, 1000000000000000001L, Long.MAX_VALUE, Long.MIN_VALUE,
            Long.MAX_VALUE - 511L, 0x7FFFFF4000000000L, 0x7FFFFFC000000000L};
        for (long time : times) {
            LoopMixer x = new LoopMixer();
            CHECKS.tells(x, "clock " + time, x.clock(time, 0), time);
            CHECKS.tells(x, "clock " + time + ", 1", x.clock(0L, 1), Float.floatToRawIntBits(time));
            CHECKS.tells(x, "clock " + time + ", 2", x.clock(0L, 2), Double.doubleToRawLongBits(time));
            CHECKS.tells(x, "clock " + time + ", 3", x.clock(0L, 3), (long) (float) time);
            CHECKS.tells(x, "clock " + time + ", 4", x.clock(0L, 4), (long) (double) time);
            CHECKS.tells(x, "clock " + time + ", 5", x.clock(0L, 5), (int) (float) time);
        }
        LoopMixer x = new LoopMixer();
        CHECKS.tells(x, "clock", x.clock(16777217L, 3), 16777216L);
        CHECKS.tells(x, "clock", x.clock(2L, 3), 16777220L);
        CHECKS.tells(x, "clock", x.clock(0L, 5), 16777220L);
        CHECKS.tells(x, "clock", x.clock(0L, 4), 16777219L);
    }

    private static void clockRunsOver() {
        for (int how = 0; how < 6; how++) {
            LoopMixer x = new LoopMixer();
            CHECKS.due("clock", x.clock(Long.MAX_VALUE, how), 1);
            CHECKS.due("clock", x.clock(1L, how), 1);
            CHECKS.tells(x, "clock that ran over", x.clock(0L, 0), Long.MIN_VALUE);
            CHECKS.tells(x, "clock back", x.clock(-1L, 0), Long.MAX_VALUE);
        }
    }

    private static void clockRefusesWhatIsBad() {
        LoopMixer x = new LoopMixer();
        x.clock(9L, 0);
        for (int how : new int[] {-1, 6, Integer.MIN_VALUE, Integer.MAX_VALUE}) {
            CHECKS.refuses(x, "clock told by " + how, () -> x.clock(100L, how), Told.BAD);
        }
        CHECKS.tells(x, "clock", x.clock(1L, 0), 10L);
    }

    private static void toldIsTheLatest() {
        LoopMixer x = mixed(0.5);
        x.effect(0, 0, Told.d(2.0));
        x.row(true, 0, 1);
        CHECKS.due("told()", x.told(), 0L);
        CHECKS.tells(x, "get", x.get(false, 0, 0), Told.f(0.5));
        CHECKS.due("told() again", x.told(), Told.f(0.5));
        CHECKS.tells(x, "make", x.make(0, Told.f(3.0)), Told.f(6.0));
        CHECKS.tells(x, "mix", x.mix(0, 3), 0L);
        CHECKS.tells(x, "at", x.at(0, 1), 1L);
        CHECKS.tells(x, "clock", x.clock(-7L, 0), -7L);
        CHECKS.refuses(x, "play", () -> x.play(0, 3), 3);
        CHECKS.refuses(x, "failed", x::failed, 0);
        CHECKS.refuses(x, "rack", () -> x.rack(0, 0), 1);
        CHECKS.refuses(x, "hang", () -> x.hang(0, 0, 0), 1);
        CHECKS.refuses(x, "take", () -> x.take(0, 0, 0, 1), 1);
        CHECKS.refuses(x, "head", () -> x.head(1, 0, -1, -1, 0L), 1);
        CHECKS.refuses(x, "effect", () -> x.effect(1, 0, 0L), 1);
        CHECKS.refuses(x, "set", () -> x.set(false, 0, 0, 0L), 1);
        CHECKS.refuses(x, "share", () -> x.share(false, 0, 1), 1);
        CHECKS.refuses(x, "drop", () -> x.drop(false, 0), 1);
        CHECKS.refuses(x, "row", () -> x.row(false, 0, 1), 1);
    }
}
