/** Counts answers that are not the due ones, and ends the test with exit code 1 if there are. */
final class Check {
    interface Call {
        long answer();
    }

    private final String test;
    private int wrong;

    Check(String test) {
        this.test = test;
    }

    void same(String what, long got, long due) {
        if (got != due) {
            tell(what, Long.toString(got), Long.toString(due));
        }
    }

    void refuses(String what, Class<? extends RuntimeException> due, Call call) {
        String got = answerOf(call);
        if (!got.equals("throws." + due.getSimpleName())) {
            tell(what, got, "throws." + due.getSimpleName());
        }
    }

    void refusesState(String what, Call call) {
        refuses(what, IllegalStateException.class, call);
    }

    void refusesArgument(String what, Call call) {
        refuses(what, IllegalArgumentException.class, call);
    }

    void refusesIndex(String what, Call call) {
        refuses(what, IndexOutOfBoundsException.class, call);
    }

    /** The answers of head(0), head(1), .. that are due. */
    void heads(String when, FindLog log, int... due) {
        for (int what = 0; what < due.length; what++) {
            same(when + ": head " + what, log.head(what), due[what]);
        }
    }

    /** The call's answer as text; a class below the named exceptions has another name. */
    static String answerOf(Call call) {
        try {
            return Long.toString(call.answer());
        } catch (RuntimeException e) {
            return "throws." + e.getClass().getSimpleName();
        }
    }

    void tell(String what, String got, String due) {
        wrong++;
        if (wrong <= 20) {
            System.out.println(test + ": " + what + " answered " + got + ", due is " + due);
        }
    }

    int wrong() {
        return wrong;
    }

    void end() {
        if (wrong != 0) {
            System.out.println(test + ": " + wrong + " answers are not as due");
            System.exit(1);
        }
    }
}
