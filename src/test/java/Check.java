/** Counts answers, and prints each that is not the one that is due. */
final class Check {
    private final String test;
    private int wrong;
    private int looked;

    Check(String test) {
        this.test = test;
    }

    void due(String call, long got, long want) {
        looked++;
        if (got != want) {
            wrong++;
            System.out.println(test + ": " + call + " answered " + got + ", due is " + want);
        }
    }

    void holds(String what, boolean so) {
        due(what, so ? 1 : 0, 1);
    }

    boolean isWrong() {
        return wrong != 0;
    }

    void end() {
        System.out.println(test + ": " + looked + " answers, " + wrong + " not as due");
        if (wrong != 0 || looked == 0) {
            System.exit(1);
        }
    }
}
