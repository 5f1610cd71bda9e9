/** Tells every answer that is not as due, and ends a test. */
final class Check {
    private static int wrong = 0;
    private static int looked = 0;
    private static int sentences = 0;
    private static String sentence = "";
    private static int lookedBefore = 0;

    private Check() {
    }

    /** What comes now is about this sentence of the document. */
    static void about(String words) {
        sentenceIsLookedAt();
        sentences++;
        sentence = words;
        lookedBefore = looked;
    }

    private static void sentenceIsLookedAt() {
        if (sentences > 0 && looked == lookedBefore) {
            wrong++;
            System.out.println("nothing was looked at for: " + sentence);
        }
    }

    static void due(String call, long got, long want) {
        looked++;
        if (got != want) {
            tell(call + " answered " + got + ", due is " + want);
        }
    }

    static void due(String call, String got, String want) {
        looked++;
        if (!got.equals(want)) {
            tell(call + " answered '" + got + "', due is '" + want + "'");
        }
    }

    static void holds(String what, boolean holds) {
        looked++;
        if (!holds) {
            tell("does not hold: " + what);
        }
    }

    private static void tell(String what) {
        wrong++;
        System.out.println(sentence.isEmpty() ? what : "[" + sentence + "] " + what);
    }

    static int wrongSoFar() {
        return wrong;
    }

    static void end() {
        sentenceIsLookedAt();
        String about = sentences == 0 ? "" : " about " + sentences + " sentences";
        System.out.println(wrong == 0 ? "all " + looked + " answers" + about + " are as due"
            : wrong + " of " + looked + " are not as due");
        if (wrong != 0) {
            System.exit(1);
        }
    }
}
