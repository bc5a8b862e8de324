/** Counts and prints answers that are not the ones due. */
final class Check {
    interface Call {
        long answer();
    }

    /** A call with one argument of its own, on an object made for it. */
    interface Try {
        long with(int value);
    }

    private String sentence = "";
    private int looked = 0;
    private int wrong = 0;

    /** An answer, or the name of what was thrown, in one text, so that both are compared alike. */
    static String outcome(Call call) {
        try {
            return Long.toString(call.answer());
        } catch (RuntimeException e) {
            return nameOf(e.getClass());
        }
    }

    private static String nameOf(Class<?> thrown) {
        return "throws." + thrown.getSimpleName();
    }

    /** The document's sentence that the checks behind this are about: it is printed with each that is wrong. */
    void about(String quoted) {
        sentence = "\"" + quoted + "\" ";
    }

    void due(String what, String got, String want) {
        looked++;
        if (!got.equals(want)) {
            wrong++;
            System.out.println(sentence + what + ": " + got + ", due is " + want);
        }
    }

    void due(String what, long want, Call call) {
        due(what, outcome(call), Long.toString(want));
    }

    void throwsDue(String what, Class<? extends RuntimeException> want, Call call) {
        due(what, outcome(call), nameOf(want));
    }

    void holds(String what, boolean isSo) {
        due(what, isSo ? "so" : "not so", "so");
    }

    /** The last values that are allowed on both sides, and the first ones that are not, and the farthest ones. */
    void bounds(String what, int least, int greatest, Class<? extends RuntimeException> thrown, Try call) {
        for (int inside : new int[] {least, greatest}) {
            String got = outcome(() -> call.with(inside));
            due(what + " " + inside + " is allowed", got.startsWith("throws") ? got : "allowed", "allowed");
        }
        for (int outside : new int[] {least - 1, greatest + 1, Integer.MIN_VALUE, Integer.MAX_VALUE}) {
            throwsDue(what + " " + outside, thrown, () -> call.with(outside));
        }
    }

    /** Part after part. One that throws where no answer was looked at is wrong, but the others are looked at still. */
    void each(Runnable... parts) {
        for (Runnable part : parts) {
            sentence = "";
            try {
                part.run();
            } catch (RuntimeException e) {
                due("a part of this came to its end", e + " at " + whereInTests(e), "so");
            }
        }
    }

    private static String whereInTests(RuntimeException e) {
        for (StackTraceElement at : e.getStackTrace()) {
            if (at.getClassName().endsWith("Test")) {
                return at.toString();
            }
        }
        return "no test";
    }

    boolean isWrong() {
        return wrong != 0;
    }

    void end() {
        System.out.println(looked + " looked at, " + wrong + " wrong");
        if (wrong != 0) {
            System.exit(1);
        }
    }
}
