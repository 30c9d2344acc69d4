/** Compares answers with those that are due, and tells the ones that differ. */
final class Check {
    private static final int MOST_TOLD = 40;
    private String where = "";
    private int compared = 0;
    private int wrong = 0;

    /** What is told ahead of each answer from now on. */
    void begin(String newWhere) {
        where = newWhere + ": ";
    }

    void due(String call, double got, double want) {
        if (Double.compare(got, want) == 0) {
            compared++;
        } else {
            tell(call + " answered " + got + ", due is " + want);
        }
    }

    void same(String call, String got, String want) {
        if (got.equals(want)) {
            compared++;
        } else {
            tell(call + " is " + got + ", due is " + want);
        }
    }

    void holds(String claim, boolean really) {
        due(claim, really ? 1 : 0, 1);
    }

    private void tell(String difference) {
        compared++;
        wrong++;
        if (wrong <= MOST_TOLD) {
            System.out.println(where + difference);
        }
    }

    int compared() {
        return compared;
    }

    boolean isFine() {
        return wrong == 0;
    }

    /** Ends the program, with exit code 1 if an answer was not as due. */
    void end() {
        System.out.println(compared + " answers compared, " + wrong + " not as due");
        System.exit(wrong == 0 && compared > 0 ? 0 : 1);
    }
}
