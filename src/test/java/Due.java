/** Compares answers with those that are due, and tells the ones that differ. */
final class Due {
    private static final int MOST_PRINTED = 20;
    private static int asked = 0;
    private static int wrong = 0;

    private Due() {
    }

    static void same(String what, long got, long want) {
        asked++;
        if (got == want) {
            return;
        }
        wrong++;
        if (wrong <= MOST_PRINTED) {
            System.out.println(what + " answered " + got + ", due is " + want);
        }
    }

    static void yes(String what, boolean got) {
        same(what, got ? 1 : 0, 1);
    }

    static void no(String what, boolean got) {
        same(what, got ? 1 : 0, 0);
    }

    /** To be called last by every test: a wrong answer makes the test fail. */
    static void end() {
        System.out.println(asked + " answers looked at, " + wrong + " not as due");
        if (wrong != 0 || asked == 0) {
            System.exit(1);
        }
    }
}
