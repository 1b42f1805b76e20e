import com.sun.management.ThreadMXBean;
import java.lang.management.ManagementFactory;
import java.util.function.ToIntFunction;

/** All calls of one run live in one room: what a call makes is little. */
public final class RoomTest {
    private static final Checks CHECKS = new Checks();
    private static final ThreadMXBean THREADS = (ThreadMXBean) ManagementFactory.getThreadMXBean();
    private static final int TIMES = 100;
    // An object has 16 bytes or more, an item of a row four: 512 calls that each make as much as
    // this fill less than a quarter of the room.
    private static final long MOST_BYTES = 4096L;

    public static void main(String[] args) {
        new LoopMixer();
        long before = THREADS.getCurrentThreadAllocatedBytes();
        new LoopMixer();
        long bytes = THREADS.getCurrentThreadAllocatedBytes() - before;
        CHECKS.holds("a new object makes " + bytes + " bytes", bytes <= MOST_BYTES);
        makesLittle("row", x -> x.row(true, 5, 16));
        makesLittle("share", x -> x.share(true, 0, 1));
        makesLittle("drop", x -> x.drop(true, 0));
        makesLittle("set", x -> x.set(true, 0, 0, 1L));
        makesLittle("get", x -> x.get(true, 0, 0));
        makesLittle("wrap", x -> x.wrap(true, 0, 0, 1));
        makesLittle("effect", x -> x.effect(5, Told.CRUSH, Told.d(-1e6)));
        makesLittle("make", x -> x.make(0, Told.f(Told.GREATEST)));
        makesLittle("rack", x -> x.rack(2, Told.CRUSH));
        makesLittle("hang", x -> x.hang(0, 0, 0));
        makesLittle("take", x -> x.take(0, 0, Told.GAIN, 1));
        makesLittle("head", x -> x.head(3, 5, 5, 2, Told.d(-64.0)));
        makesLittle("play", x -> x.play(0, 64));
        makesLittle("failed", x -> x.failed());
        makesLittle("mix", x -> x.mix(0, 0));
        makesLittle("hush", x -> x.hush());
        makesLittle("at", x -> x.at(0, 0));
        makesLittle("clock", x -> x.clock(1L, 2));
        makesLittle("told", x -> (int) x.told());
        CHECKS.end();
    }

    private static void makesLittle(String name, ToIntFunction<LoopMixer> call) {
        // The first time, what the machine loads for a call counts, too.
        bytesMade(call);
        long bytes = bytesMade(call);
        CHECKS.holds(name + " makes " + bytes + " bytes a call", bytes <= MOST_BYTES);
    }

    private static long bytesMade(ToIntFunction<LoopMixer> call) {
        LoopMixer mixer = prepared();
        long before = THREADS.getCurrentThreadAllocatedBytes();
        for (int i = 0; i < TIMES; i++) {
            call.applyAsInt(mixer);
        }
        return (THREADS.getCurrentThreadAllocatedBytes() - before) / TIMES;
    }

    /** With a head that plays through all there is. */
    private static LoopMixer prepared() {
        LoopMixer mixer = new LoopMixer();
        mixer.row(false, 0, 16);
        mixer.row(true, 0, 16);
        mixer.set(true, 0, 0, Told.d(Double.MAX_VALUE));
        mixer.set(true, 0, 1, Told.d(Double.MIN_VALUE));
        mixer.effect(0, Told.FOLD, Told.d(1e6));
        mixer.rack(0, Told.GAIN);
        for (int i = 0; i < 3; i++) {
            mixer.hang(0, i, 0);
        }
        mixer.head(0, 0, 0, 0, Told.d(-63.9));
        CHECKS.due("play(0, 64)", mixer.play(0, 64), 64);
        return mixer;
    }
}
