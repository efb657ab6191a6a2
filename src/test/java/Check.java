/** Compares answers with those that are due, and tells by the exit code whether one was wrong. */
final class Check {
    private final String test;
    private String sentence = "";
    private int sentences = 0;
    private int wrong = 0;

    Check(String test) {
        this.test = test;
    }

    /** The words of the document that the next answers are tested for, behind their promise's number. */
    void sentence(String words) {
        sentence = " \"" + words + "\"";
        sentences++;
    }

    void due(String call, long got, long want) {
        if (got != want) {
            wrong++;
            System.out.println(test + sentence + ": " + call + " answered " + got + ", due is " + want);
        }
    }

    void due(String call, boolean got, boolean want) {
        due(call, got ? 1 : 0, want ? 1 : 0);
    }

    void due(String what, String got, String want) {
        if (!got.equals(want)) {
            wrong++;
            System.out.println(test + sentence + ": " + what + " is " + got + ", due is " + want);
        }
    }

    void finish() {
        String tested = sentences == 0 ? "" : sentences + " sentences, ";
        System.out.println(tested + (wrong == 0 ? "all answers are as due" : wrong + " answers are not as due"));
        if (wrong != 0) {
            System.exit(1);
        }
    }
}
