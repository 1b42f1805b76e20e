import java.util.function.LongSupplier;

/**
 * A new mixer with a check round every call: its answer is the one that is due, and told() is
 * what was told latest, so that a call that tells nothing or is refused leaves it as it was.
 */
final class Desk {
    private static final int MOST_CALLS = 512;

    private final Checks checks;
    private final LoopMixer mixer = new LoopMixer();
    private long latest = 0L;
    private int calls = 0;

    Desk(Checks checks) {
        this.checks = checks;
    }

    private void answers(String name, LongSupplier call, long want) {
        calls += 2;
        if (calls > MOST_CALLS) {
            checks.holds("an object has no more than " + MOST_CALLS + " calls", false);
        }
        checks.due(name, call.getAsLong(), want);
        checks.due(name + ", told()", mixer.told(), latest);
    }

    private void tells(String name, LongSupplier call, long want) {
        latest = want;
        answers(name, call, 1);
    }

    void told(long want) {
        latest = want;
        answers("told()", mixer::told, want);
    }

    void row(boolean curve, int k, int n, int want) {
        answers("row(" + curve + ", " + k + ", " + n + ")", () -> mixer.row(curve, k, n), want);
    }

    /** A row with these items. */
    void items(boolean curve, int k, double... items) {
        row(curve, k, items.length, 1);
        for (int i = 0; i < items.length; i++) {
            set(curve, k, i, Told.bits(curve, items[i]), 1);
        }
    }

    void track(int k, double... items) {
        items(false, k, items);
    }

    void curve(int k, double... items) {
        items(true, k, items);
    }

    void share(boolean curve, int from, int to, int want) {
        answers("share(" + curve + ", " + from + ", " + to + ")", () -> mixer.share(curve, from, to), want);
    }

    void drop(boolean curve, int k, int want) {
        answers("drop(" + curve + ", " + k + ")", () -> mixer.drop(curve, k), want);
    }

    void set(boolean curve, int k, int i, long bits, int want) {
        String name = "set(" + curve + ", " + k + ", " + i + ", " + Long.toHexString(bits) + ")";
        answers(name, () -> mixer.set(curve, k, i, bits), want);
    }

    void tellsItem(boolean curve, int k, int i, double want) {
        tellsBits(curve, k, i, Told.bits(curve, want));
    }

    void tellsBits(boolean curve, int k, int i, long want) {
        tells("get(" + curve + ", " + k + ", " + i + ")", () -> mixer.get(curve, k, i), want);
    }

    void refusesGet(boolean curve, int k, int i, int want) {
        answers("get(" + curve + ", " + k + ", " + i + ")", () -> mixer.get(curve, k, i), want);
    }

    void wrap(boolean curve, int k, int i, int j, int want) {
        answers("wrap(" + curve + ", " + k + ", " + i + ", " + j + ")", () -> mixer.wrap(curve, k, i, j), want);
    }

    void effect(int k, int kind, double amount) {
        effect(k, kind, Told.d(amount), 1);
    }

    void effect(int k, int kind, long amount, int want) {
        String name = "effect(" + k + ", " + kind + ", " + Double.longBitsToDouble(amount) + ")";
        answers(name, () -> mixer.effect(k, kind, amount), want);
    }

    void makes(int k, double s, double want) {
        makesBits(k, Told.f(s), Told.f(want));
    }

    void makesBits(int k, long bits, long want) {
        String name = "make(" + k + ", " + Float.intBitsToFloat((int) bits) + ")";
        tells(name, () -> mixer.make(k, bits), want);
    }

    void refusesMake(int k, long bits, int want) {
        answers("make(" + k + ", " + Long.toHexString(bits) + ")", () -> mixer.make(k, bits), want);
    }

    void rack(int r, int kind, int want) {
        answers("rack(" + r + ", " + kind + ")", () -> mixer.rack(r, kind), want);
    }

    void hang(int r, int i, int k, int want) {
        answers("hang(" + r + ", " + i + ", " + k + ")", () -> mixer.hang(r, i, k), want);
    }

    /** A rack for a kind with the effects of these three numbers. */
    void rackOf(int r, int kind, int first, int second, int third) {
        rack(r, kind, 1);
        hang(r, 0, first, 1);
        hang(r, 1, second, 1);
        hang(r, 2, third, 1);
    }

    void take(int r, int i, int kind, int k, int want) {
        String name = "take(" + r + ", " + i + ", " + kind + ", " + k + ")";
        answers(name, () -> mixer.take(r, i, kind, k), want);
    }

    void head(int h, int track, int curve, int rack, double rate) {
        head(h, track, curve, rack, Told.d(rate), 1);
    }

    void head(int h, int track, int curve, int rack, long rate, int want) {
        String name = "head(" + h + ", " + track + ", " + curve + ", " + rack + ", " + Double.longBitsToDouble(rate) + ")";
        answers(name, () -> mixer.head(h, track, curve, rack, rate), want);
    }

    void play(int h, int n, int want) {
        answers("play(" + h + ", " + n + ")", () -> mixer.play(h, n), want);
    }

    /** All n steps are done. */
    void plays(int h, int n) {
        play(h, n, n);
        failed(0);
    }

    /** A failure ends the playing of n after so many steps. */
    void stops(int h, int n, int steps, int failure) {
        play(h, n, steps);
        failed(failure);
    }

    void failed(int want) {
        answers("failed()", mixer::failed, want);
    }

    void tellsMix(int i, int how, long want) {
        tells("mix(" + i + ", " + how + ")", () -> mixer.mix(i, how), want);
    }

    /** These are the items of the mix from 0 on, and 0.0 the rest of them. */
    void mixIs(double... items) {
        for (int i = 0; i < 8; i++) {
            tellsMix(i, 0, Told.f(i < items.length ? items[i] : 0.0));
        }
    }

    void refusesMix(int i, int how, int want) {
        answers("mix(" + i + ", " + how + ")", () -> mixer.mix(i, how), want);
    }

    void hush() {
        answers("hush()", mixer::hush, 1);
    }

    void isAt(int h, double place, long steps) {
        tells("at(" + h + ", 0)", () -> mixer.at(h, 0), Told.d(place));
        tells("at(" + h + ", 1)", () -> mixer.at(h, 1), steps);
    }

    void refusesAt(int h, int what, int want) {
        answers("at(" + h + ", " + what + ")", () -> mixer.at(h, what), want);
    }

    void clock(long n, int how, long want) {
        tells("clock(" + n + ", " + how + ")", () -> mixer.clock(n, how), want);
    }

    void refusesClock(long n, int how, int want) {
        answers("clock(" + n + ", " + how + ")", () -> mixer.clock(n, how), want);
    }
}
