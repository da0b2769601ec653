/** Counts answers that are as due, and prints those that are not. */
final class Check {
    private int passed = 0;
    private int failed = 0;

    void due(String call, long got, long want) {
        if (got == want) {
            passed++;
        } else {
            failed++;
            System.out.println(call + " answered " + got + ", due is " + want);
        }
    }

    void holds(String what, boolean is) {
        due(what, is ? 1 : 0, 1);
    }

    int failed() {
        return failed;
    }

    /** Ends the test: exit code 1 if an answer was not the one that was due. */
    void end(String test) {
        System.out.println(test + ": " + passed + " answers as due, " + failed + " not");
        if (failed != 0) {
            System.exit(1);
        }
    }
}
