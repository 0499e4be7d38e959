/** Counts and prints the answers that are not as due, and ends a test by its count. */
final class Due {
    private static int wrong = 0;
    private static int looked = 0;
    private static int lookedBeforeSentence = -1;
    private static String sentence = "";

    private Due() {
    }

    /** What is looked at from here on is what this sentence of the document asks. */
    static void sentence(String text) {
        endSentence();
        sentence = text;
        lookedBeforeSentence = looked;
    }

    static void due(String what, int want, int got) {
        looked++;
        if (got != want) {
            wrong++;
            String where = sentence.isEmpty() ? "" : "[" + sentence + "] ";
            System.out.println(where + what + " answered " + got + ", due is " + want);
        }
    }

    static void dueTrue(String what, boolean got) {
        due(what, 1, got ? 1 : 0);
    }

    static void end() {
        endSentence();
        System.out.println(wrong + " of " + looked + " answers are not as due");
        if (wrong != 0) {
            System.exit(1);
        }
    }

    // A sentence that nothing was looked at for would seem to hold.
    private static void endSentence() {
        if (looked == lookedBeforeSentence) {
            wrong++;
            System.out.println("[" + sentence + "] has no test");
        }
    }
}
