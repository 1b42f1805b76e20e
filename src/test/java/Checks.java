import java.util.function.LongSupplier;

/** Counts answers that are not the ones that are due, and ends the test with exit code 1 if there were any. */
final class Checks {
    private int right = 0;
    private int wrong = 0;

    void due(String call, long got, long want) {
        if (got == want) {
            right++;
            return;
        }
        wrong++;
        System.out.println(call + " answered " + got + ", due is " + want);
    }

    /** A call that must TELL: it answers 1, and told() is want then. */
    void tells(LoopMixer mixer, String call, long answer, long want) {
        due(call, answer, 1);
        due(call + ", told()", mixer.told(), want);
    }

    /** A call that is refused: it answers want and leaves told() as it was. */
    void refuses(LoopMixer mixer, String call, LongSupplier answer, long want) {
        long before = mixer.told();
        due(call, answer.getAsLong(), want);
        due(call + ", told()", mixer.told(), before);
    }

    void holds(String what, boolean holds) {
        due(what, holds ? 1 : 0, 1);
    }

    void end() {
        System.out.println(right + " right, " + wrong + " wrong");
        if (wrong != 0 || right == 0) {
            System.exit(1);
        }
    }
}
