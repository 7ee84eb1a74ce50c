/** Counts and prints the answers that are not as due; a test ends with finish(). */
final class Check {
    /** A call of the face; a boolean answer counts 1 or 0. */
    interface Call {
        long answer();
    }

    private final String test;
    private int asked;
    private int wrong;

    Check(String test) {
        this.test = test;
    }

    /** What a call answers, or throws, as a text that can be compared. */
    static String outcome(Call call) {
        try {
            return Long.toString(call.answer());
        } catch (RuntimeException e) {
            return "throws." + e.getClass().getSimpleName();
        }
    }

    void due(String what, long want, Call call) {
        same(what, Long.toString(want), outcome(call));
    }

    void isTrue(String what, boolean got) {
        same(what, "true", Boolean.toString(got));
    }

    void refused(String what, Class<? extends RuntimeException> want, Call call) {
        same(what, "throws." + want.getSimpleName(), outcome(call));
    }

    void same(String what, String want, String got) {
        asked++;
        if (!want.equals(got)) {
            wrong++;
            System.out.println(test + ": " + what + " answered " + got + ", due is " + want);
        }
    }

    int wrong() {
        return wrong;
    }

    void finish() {
        System.out.println(test + ": " + asked + " answers, " + wrong + " not as due");
        if (wrong != 0) {
            System.exit(1);
        }
    }
}
