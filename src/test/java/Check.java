/** Compares answers with those that are due, prints the wrong ones, and ends the test. */
final class Check {
    private static final String NO_SENTENCE = "";

    private int right = 0;
    private int wrong = 0;
    private int sentences = 0;
    private String sentence = NO_SENTENCE;
    private int answersBefore = 0;

    /**
     * What follows, up to the next sentence, is one test: it holds the class to these words of the document.
     * A test whose words the document does not have, or that looks at no answer, has failed.
     */
    void sentence(String promise, String words) {
        endSentence();
        sentences++;
        sentence = promise + ", \"" + words + "\": ";
        if (!Document.says(words)) {
            count(false, "the document", "no such words", "them");
        }
        answersBefore = right + wrong;
    }

    private void endSentence() {
        if (!sentence.equals(NO_SENTENCE) && right + wrong == answersBefore) {
            count(false, "the test", "nothing", "something");
        }
        sentence = NO_SENTENCE;
    }

    void due(String call, long got, long want) {
        count(got == want, call, String.valueOf(got), String.valueOf(want));
    }

    void due(String call, boolean got, boolean want) {
        count(got == want, call, String.valueOf(got), String.valueOf(want));
    }

    /** Floats are due to the last bit. */
    void due(String call, float got, float want) {
        count(got == want, call, String.valueOf(got), String.valueOf(want));
    }

    void due(String call, String got, String want) {
        count(got.equals(want), call, got, want);
    }

    void holds(String claim, boolean truth) {
        count(truth, claim, "false", "true");
    }

    private void count(boolean isRight, String call, String got, String want) {
        if (isRight) {
            right++;
            return;
        }
        wrong++;
        if (wrong <= 20) {
            System.out.println(sentence + call + " answered " + got + ", due is " + want);
        }
    }

    /** A test that looked at nothing has failed too. */
    void end() {
        endSentence();
        String of = sentences > 0 ? sentences + " sentences: " : "";
        System.out.println(of + right + " answers as due, " + wrong + " not");
        if (wrong != 0 || right == 0) {
            System.exit(1);
        }
    }
}
