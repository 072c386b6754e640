/** Counts the answers that are not the ones that are due. */
final class Check {
    private int wrong = 0;
    private String sentence = "";

    /** The sentence of the document that the following answers are due to. */
    void says(String sentenceOfDocument) {
        sentence = "\"" + sentenceOfDocument + "\" ";
    }

    /** What the following answers are due to, if it is no sentence of the document. */
    void about(String claim) {
        sentence = claim + ": ";
    }

    void due(String call, long got, long want) {
        if (got != want) {
            wrong++;
            if (wrong <= 50) {
                System.out.println(sentence + call + " answered " + got + ", due is " + want);
            }
        }
    }

    void due(String claim, boolean holds) {
        due(claim, holds ? 1 : 0, 1);
    }

    boolean allRight() {
        return wrong == 0;
    }

    /** Ends the test: with exit code 1 if an answer was wrong. */
    void end() {
        System.out.println(wrong == 0 ? "all answers are as due" : wrong + " answers are not as due");
        if (wrong != 0) {
            System.exit(1);
        }
    }
}
