/** Compares answers with those that are due, tells each that differs, and ends the test. */
final class Check {
    private final String test;
    private int asked;
    private int wrong;

    Check(String test) {
        this.test = test;
    }

    void due(String call, long got, long want) {
        asked++;
        if (got == want) return;
        wrong++;
        System.out.println(test + ": " + call + " answered " + got + ", due is " + want);
    }

    /** Ends the machine with 1 if an answer was not the one that is due. */
    void end() {
        System.out.println(test + ": " + asked + " answers, " + wrong + " wrong");
        if (wrong != 0 || asked == 0) System.exit(1);
    }
}
