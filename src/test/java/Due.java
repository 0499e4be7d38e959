/** Counts and prints the answers that are not as due, and ends a test by its count. */
final class Due {
    private static int wrong = 0;
    private static int looked = 0;

    private Due() {
    }

    static void due(String what, int want, int got) {
        looked++;
        if (got != want) {
            wrong++;
            System.out.println(what + " answered " + got + ", due is " + want);
        }
    }

    static void dueTrue(String what, boolean got) {
        due(what, 1, got ? 1 : 0);
    }

    static void end() {
        System.out.println(wrong + " of " + looked + " answers are not as due");
        if (wrong != 0) {
            System.exit(1);
        }
    }
}
