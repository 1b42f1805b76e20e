/** Counts answers that are not the ones that are due, and ends the test with exit code 1 if there were any. */
final class Checks {
    private String about = "";
    private int right = 0;
    private int wrong = 0;

    /** What the next checks are about: it stands before each of them that goes wrong. */
    void about(String words) {
        about = words.isEmpty() ? "" : words + " -- ";
    }

    int made() {
        return right + wrong;
    }

    void due(String call, long got, long want) {
        if (got == want) {
            right++;
            return;
        }
        wrong++;
        System.out.println(about + call + " answered " + got + ", due is " + want);
    }

    void holds(String what, boolean holds) {
        if (holds) {
            right++;
            return;
        }
        wrong++;
        System.out.println(about + what + ": it is not so");
    }

    void end() {
        System.out.println(right + " right, " + wrong + " wrong");
        if (wrong != 0 || right == 0) {
            System.exit(1);
        }
    }
}
