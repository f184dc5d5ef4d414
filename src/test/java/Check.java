/** Counts answers, and prints each that is not the one that is due. */
final class Check {
    private final String test;
    private int wrong;
    private int looked;
    private String sentence = "";
    private int sentences;
    private int lookedAhead;

    Check(String test) {
        this.test = test;
    }

    /** What follows tests this sentence of the document; one without a test of its own is wrong. */
    void sentence(String words) {
        endSentence();
        sentence = words;
        sentences++;
        lookedAhead = looked;
    }

    private void endSentence() {
        if (sentences > 0 && looked == lookedAhead) {
            wrong++;
            System.out.println(test + ": '" + sentence + "' has no test");
        }
    }

    void due(String call, long got, long want) {
        looked++;
        if (got != want) {
            wrong++;
            String told = sentence.isEmpty() ? "" : "'" + sentence + "': ";
            System.out.println(test + ": " + told + call + " answered " + got + ", due is " + want);
        }
    }

    void holds(String what, boolean so) {
        due(what, so ? 1 : 0, 1);
    }

    boolean isWrong() {
        return wrong != 0;
    }

    void end() {
        endSentence();
        String of = sentences == 0 ? "" : " to " + sentences + " sentences";
        System.out.println(test + ": " + looked + " answers" + of + ", " + wrong + " not as due");
        if (wrong != 0 || looked == 0) {
            System.exit(1);
        }
    }
}
