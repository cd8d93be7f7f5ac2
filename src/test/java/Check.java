/** Counts the answers of a test that are not as due, and prints each of them. */
final class Check {
    private final String title;
    private int wrong = 0;
    private int asked = 0;

    Check() {
        this("");
    }

    /** A check whose wrong answers are printed behind a title. */
    Check(String title) {
        this.title = title.isEmpty() ? "" : title + ": ";
    }

    void due(String call, long got, long want) {
        asked++;
        if (got != want) {
            wrong++;
            System.out.println(title + call + " answered " + got + ", due is " + want);
        }
    }

    void due(String call, boolean got, boolean want) {
        due(call, got ? 1 : 0, want ? 1 : 0);
    }

    boolean wasAsked() {
        return asked != 0;
    }

    boolean holds() {
        return wrong == 0 && asked != 0;
    }

    /** Ends the test: with exit code 1 if an answer was wrong, or if nothing was asked. */
    void end() {
        System.out.println(asked + " answers looked at, " + wrong + " wrong");
        if (!holds()) {
            System.exit(1);
        }
    }
}
