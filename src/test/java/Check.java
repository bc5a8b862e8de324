/** Counts and prints answers that are not the ones due. */
final class Check {
    interface Call {
        long answer();
    }

    private int looked = 0;
    private int wrong = 0;

    /** An answer, or the name of what was thrown, in one text, so that both are compared alike. */
    static String outcome(Call call) {
        try {
            return Long.toString(call.answer());
        } catch (RuntimeException e) {
            return "throws." + e.getClass().getSimpleName();
        }
    }

    void due(String what, String got, String want) {
        looked++;
        if (!got.equals(want)) {
            wrong++;
            System.out.println(what + ": " + got + ", due is " + want);
        }
    }

    void due(String what, long want, Call call) {
        due(what, outcome(call), Long.toString(want));
    }

    void throwsDue(String what, Class<? extends RuntimeException> want, Call call) {
        due(what, outcome(call), "throws." + want.getSimpleName());
    }

    void holds(String what, boolean isSo) {
        due(what, isSo ? "so" : "not so", "so");
    }

    boolean isWrong() {
        return wrong != 0;
    }

    void end() {
        System.out.println(looked + " looked at, " + wrong + " wrong");
        if (wrong != 0) {
            System.exit(1);
        }
    }
}
