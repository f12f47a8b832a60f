/** Counts the answers that are not the ones that are due, and ends the test by them. */
final class Checks {
    interface Call {
        long answer();
    }

    private int wrong = 0;
    private int many = 0;

    void due(String call, long want, Call run) {
        many++;
        try {
            long got = run.answer();
            if (got != want) {
                fault(call + " answered " + got + ", due is " + want);
            }
        } catch (RuntimeException e) {
            fault(call + " threw " + e + ", due is " + want);
        }
    }

    /** The exception is due, thrown by a throw statement: neither of a narrower class nor the machine's own. */
    void refused(String call, Class<? extends RuntimeException> want, Call run) {
        many++;
        try {
            fault(call + " answered " + run.answer() + ", due is " + want.getSimpleName());
        } catch (RuntimeException e) {
            if (e.getClass() != want || isOfTheMachine(e)) {
                fault(call + " threw " + e + ", due is " + want.getSimpleName());
            }
        }
    }

    /** The class alone does not tell a division by 0 of the machine from a thrown ArithmeticException. */
    static boolean isOfTheMachine(RuntimeException e) {
        StackTraceElement[] trace = e.getStackTrace();
        return "/ by zero".equals(e.getMessage())
                || trace.length == 0
                || !trace[0].getClassName().startsWith("RegisterRows");
    }

    void fault(String text) {
        wrong++;
        if (wrong <= 40) {
            System.out.println(text);
        }
    }

    /** The five parts of GLUE n. */
    void parts(String call, RegisterRows x, int n, long... want) {
        for (int what = 0; what < 5; what++) {
            int w = what;
            due(call + ": part(" + n + ", " + w + ")", want[w], () -> x.part(n, w));
        }
    }

    /** glue() answers nothing; as a call with an answer it can be held to end without an exception. */
    static long glue(RegisterRows x, long natural, long stretch, int by, long shrink, int by2) {
        x.glue(natural, stretch, by, shrink, by2);
        return 0;
    }

    static void putGlue(RegisterRows x, int n, long natural, long stretch, int by, long shrink, int by2) {
        x.glue(natural, stretch, by, shrink, by2);
        x.set(2, n, 0, false);
    }

    /** The signs that are told of a REGISTER, up to the first NONE. */
    static String shown(RegisterRows x, int kind, int n) {
        StringBuilder text = new StringBuilder();
        for (int i = 0; i < 200; i++) {
            int sign = x.shown(kind, n, i);
            if (sign == RegisterRows.NONE) {
                break;
            }
            text.append((char) sign);
        }
        return text.toString();
    }

    void dueText(String call, String want, String got) {
        many++;
        if (!want.equals(got)) {
            int same = 0;
            while (same < want.length() && same < got.length() && want.charAt(same) == got.charAt(same)) {
                same++;
            }
            int from = Math.max(0, same - 60);
            fault(call + " is, from sign " + from + " on, \"" + shortened(got, from) + "\", due is \""
                    + shortened(want, from) + "\"");
        }
    }

    private static String shortened(String text, int from) {
        return text.substring(from, Math.min(text.length(), from + 120));
    }

    void end() {
        System.out.println(many + " checks, " + wrong + " wrong");
        if (wrong != 0) {
            System.exit(1);
        }
    }
}
