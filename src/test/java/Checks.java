/** Counts and prints the answers that are not as due. */
final class Checks {
    private int asked = 0;
    private int wrong = 0;
    private String title = "";

    void title(String newTitle) {
        title = newTitle;
    }

    void due(String call, long got, long want) {
        asked++;
        if (got != want) {
            wrong++;
            System.out.println(title + ": " + call + " answered " + got + ", due is " + want);
        }
    }

    /** Floats are compared by their bits, so that 0.0f and -0.0f differ; one NaN is as good as another. */
    void due(String call, float got, float want) {
        asked++;
        if (Float.floatToIntBits(got) != Float.floatToIntBits(want)) {
            wrong++;
            System.out.println(title + ": " + call + " answered " + got + ", due is " + want);
        }
    }

    void due(String what, String got, String want) {
        asked++;
        if (!got.equals(want)) {
            wrong++;
            System.out.println(title + ": " + what + " answered\n" + got + "\ndue is\n" + want);
        }
    }

    int wrong() {
        return wrong;
    }

    /** Ends the test's machine, with exit code 1 if an answer was not as due. */
    void end() {
        System.out.println(asked + " answers asked, " + wrong + " of them not as due");
        System.exit(wrong == 0 ? 0 : 1);
    }
}
