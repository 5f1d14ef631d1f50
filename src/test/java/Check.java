/** Counts and prints the answers that are not the ones that are due. */
final class Check {
    private int wrong = 0;

    void due(String call, long got, long want) {
        if (got == want) return;
        wrong++;
        System.out.println(call + " answered " + got + ", due is " + want);
    }

    void due(String what, boolean holds) {
        if (holds) return;
        wrong++;
        System.out.println(what + " does not hold");
    }

    /** Ends the program, with exit code 1 if an answer was wrong. */
    void end() {
        System.exit(wrong == 0 ? 0 : 1);
    }
}
