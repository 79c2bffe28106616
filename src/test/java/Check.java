/** Counts and prints what is not as due. */
final class Check {
    interface Call {
        Object answer();
    }

    private int checks;
    private int wrong;

    /** The answer of a call as text: a value, or the simple name of what it throws. */
    static String answerOf(Call call) {
        try {
            return String.valueOf(call.answer());
        } catch (RuntimeException e) {
            return e.getClass().getSimpleName();
        }
    }

    void due(String what, Object want, Call call) {
        String got = answerOf(call);
        checks++;
        if (!got.equals(String.valueOf(want))) {
            wrong++;
            System.out.println(what + " answered " + got + ", due is " + want);
        }
    }

    void finish() {
        System.out.println(checks + " checks, " + wrong + " wrong");
        if (wrong > 0) {
            System.exit(1);
        }
    }
}
