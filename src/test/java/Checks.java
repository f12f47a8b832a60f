/** Counts the answers that are not the ones that are due, and ends the test by them. */
final class Checks {
    interface Call {
        long answer();
    }

    private int wrong = 0;
    private int many = 0;

    void due(String call, long want, Call run) {
        many++;
        try {
            long got = run.answer();
            if (got != want) {
                fault(call + " answered " + got + ", due is " + want);
            }
        } catch (RuntimeException e) {
            fault(call + " threw " + e + ", due is " + want);
        }
    }

    /** The exception is due, thrown by a throw statement: neither of a narrower class nor the machine's own. */
    void refused(String call, Class<? extends RuntimeException> want, Call run) {
        many++;
        try {
            fault(call + " answered " + run.answer() + ", due is " + want.getSimpleName());
        } catch (RuntimeException e) {
            if (e.getClass() != want || isOfTheMachine(e)) {
                fault(call + " threw " + e + ", due is " + want.getSimpleName());
            }
        }
    }

    /** The class alone does not tell a division by 0 of the machine from a thrown ArithmeticException. */
    static boolean isOfTheMachine(RuntimeException e) {
        StackTraceElement[] trace = e.getStackTrace();
        return "/ by zero".equals(e.getMessage())
                || trace.length == 0
                || !trace[0].getClassName().startsWith("RegisterRows");
    }

    void fault(String text) {
        wrong++;
        if (wrong <= 40) {
            System.out.println(text);
        }
    }

    /** The signs that are told of a REGISTER, up to the first NONE. */
    static String shown(RegisterRows x, int kind, int n) {
        StringBuilder text = new StringBuilder();
        for (int i = 0; i < 200 && x.shown(kind, n, i) != RegisterRows.NONE; i++) {
            text.append((char) x.shown(kind, n, i));
        }
        return text.toString();
    }

    void dueText(String call, String want, String got) {
        many++;
        if (!want.equals(got)) {
            fault(call + " is \"" + got + "\", due is \"" + want + "\"");
        }
    }

    void end() {
        System.out.println(many + " checks, " + wrong + " wrong");
        if (wrong != 0) {
            System.exit(1);
        }
    }
}
