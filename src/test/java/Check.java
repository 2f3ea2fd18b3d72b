/** Compares answers with those that are due, prints the wrong ones, and ends the test. */
final class Check {
    private int right = 0;
    private int wrong = 0;

    void due(String call, long got, long want) {
        count(got == want, call, String.valueOf(got), String.valueOf(want));
    }

    void due(String call, boolean got, boolean want) {
        count(got == want, call, String.valueOf(got), String.valueOf(want));
    }

    /** Floats are due to the last bit. */
    void due(String call, float got, float want) {
        count(got == want, call, String.valueOf(got), String.valueOf(want));
    }

    void due(String call, String got, String want) {
        count(got.equals(want), call, got, want);
    }

    void holds(String claim, boolean truth) {
        count(truth, claim, "false", "true");
    }

    int wrongOnes() {
        return wrong;
    }

    private void count(boolean isRight, String call, String got, String want) {
        if (isRight) {
            right++;
            return;
        }
        wrong++;
        if (wrong <= 20) {
            System.out.println(call + " answered " + got + ", due is " + want);
        }
    }

    /** A test that looked at nothing has failed too. */
    void end() {
        System.out.println(right + " answers as due, " + wrong + " not");
        if (wrong != 0 || right == 0) {
            System.exit(1);
        }
    }
}
