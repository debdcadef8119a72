/** Compares answers with those that are due, and tells the ones that differ. */
final class Due {
    private static final int MOST_PRINTED = 20;
    private static int asked = 0;
    private static int wrong = 0;
    private static int sentences = 0;
    private static int askedBefore = 0;
    private static String about = "";

    private Due() {
    }

    /** The answers looked at from here on are about this sentence of the document. */
    static void about(String sentence) {
        endSentence();
        sentences++;
        askedBefore = asked;
        about = "\"" + sentence + "\": ";
    }

    /** A sentence that no answer was looked at for has no test. */
    private static void endSentence() {
        if (sentences > 0 && asked == askedBefore) {
            wrong++;
            System.out.println(about + "no answer was looked at");
        }
    }

    static void same(String what, long got, long want) {
        asked++;
        if (got == want) {
            return;
        }
        wrong++;
        if (wrong <= MOST_PRINTED) {
            System.out.println(about + what + " answered " + got + ", due is " + want);
        }
    }

    static void yes(String what, boolean got) {
        same(what, got ? 1 : 0, 1);
    }

    static void no(String what, boolean got) {
        same(what, got ? 1 : 0, 0);
    }

    /** To be called last by every test: a wrong answer makes the test fail. */
    static void end() {
        endSentence();
        String named = sentences > 0 ? sentences + " sentences, " : "";
        System.out.println(named + asked + " answers looked at, " + wrong + " not as due");
        if (wrong != 0 || asked == 0) {
            System.exit(1);
        }
    }
}
