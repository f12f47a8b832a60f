/** Promises 19 and 20: how REGISTERS are SHOWN, and what is told. */
public final class ShownTest {
    private static final Class<IllegalArgumentException> WRONG = IllegalArgumentException.class;
    private static final Class<IndexOutOfBoundsException> NO_SUCH = IndexOutOfBoundsException.class;
    private static final Checks c = new Checks();
    private static final RegisterRows x = new RegisterRows();

    public static void main(String[] args) {
        counts();
        lengths();
        glue();
        rows();
        boxes();
        shownIsRefused();
        told();
        c.end();
    }

    private static void shows(int kind, long v, String want) {
        x.set(kind, 9, v, false);
        c.dueText("KIND " + kind + ", " + v, want, Checks.shown(x, kind, 9));
    }

    private static void counts() {
        for (long v : new long[] {0, 1, -1, 9, 10, -10, 99, 100, 101, 1000000000, 999999999, 2147483647, -2147483647}) {
            shows(0, v, Long.toString(v));
        }
    }

    private static void lengths() {
        shows(1, 0, "0.0");
        shows(1, 65536, "1.0");
        shows(1, -65536, "-1.0");
        shows(1, 1, "0.00002");
        shows(1, -1, "-0.00002");
        shows(1, 2, "0.00003");
        shows(1, 6554, "0.1");
        shows(1, 32768, "0.5");
        shows(1, 65535, "0.99998");
        shows(1, 205887, "3.14159");
        shows(1, 655360, "10.0");
        shows(1, 1073741823, "16383.99998");
        shows(1, -1073741823, "-16383.99998");
    }

    private static void showsGlue(String want, long natural, long stretch, int by, long shrink, int by2) {
        x.glue(natural, stretch, by, shrink, by2);
        x.set(2, 9, 0, false);
        c.dueText("GLUE", want, Checks.shown(x, 2, 9));
    }

    private static void glue() {
        showsGlue("0.0pt", 0, 0, 0, 0, 0);
        showsGlue("0.0pt", 0, 0, 3, 0, 2);
        showsGlue("1.0pt plus 2.0fil minus 0.5pt", 65536, 131072, 1, 32768, 0);
        showsGlue("-1.0pt plus 1.0fill", -65536, 65536, 2, 0, 0);
        showsGlue("0.0pt plus -1.0pt", 0, -65536, 0, 0, 3);
        showsGlue("0.1pt minus -2.0filll", 6554, 0, 1, -131072, 3);
        showsGlue("0.0pt plus 1.0filll minus 1.0fil", 0, 65536, 3, 65536, 1);
        showsGlue("-16383.99998pt plus -16383.99998filll minus -16383.99998filll",
                -1073741823, -1073741823, 3, -1073741823, 3);
    }

    private static void rows() {
        c.dueText("an empty ROW", "", Checks.shown(x, 3, 9));
        StringBuilder want = new StringBuilder();
        for (int i = 0; i < 20; i++) {
            int t = i * 13 % 256;
            x.token(t);
            want.append((char) t);
        }
        shows(3, 0, want.toString());
        x.token(255);
        shows(3, 0, "\u00ff");
    }

    private static void boxes() {
        c.dueText("VOID", "void", Checks.shown(x, 4, 9));
        for (int v : new int[] {0, 7, 10, 99, 100, 999}) {
            shows(4, v, Integer.toString(v));
        }
        shows(4, -1, "void");
        shows(4, 5, "5");
        x.take(9);
        c.dueText("taken", "void", Checks.shown(x, 4, 9));
    }

    private static void shownIsRefused() {
        x.set(0, 9, -12, false);
        for (int i : new int[] {3, 61, -1, Integer.MAX_VALUE, Integer.MIN_VALUE}) {
            c.due("shown(0, 9, " + i + ")", -1, () -> x.shown(0, 9, i));
        }
        for (int kind : new int[] {-1, 5, Integer.MAX_VALUE, Integer.MIN_VALUE}) {
            c.refused("shown(" + kind + ", 0, 0)", WRONG, () -> x.shown(kind, 0, 0));
            c.refused("KIND ahead of REGISTER", WRONG, () -> x.shown(kind, 32, 0));
        }
        for (int kind = 0; kind < 5; kind++) {
            int k = kind;
            for (int n : new int[] {-1, 32, Integer.MAX_VALUE, Integer.MIN_VALUE}) {
                c.refused("shown(" + k + ", " + n + ", -1)", NO_SUCH, () -> x.shown(k, n, -1));
            }
        }
    }

    private static void told() {
        RegisterRows y = new RegisterRows();
        y.group();
        y.group();
        for (int kind = 0; kind < 5; kind++) {
            int k = kind;
            y.set(k, 31, 0, false);
            c.due("LEVEL", 2, () -> y.told(10 + k, 31));
            c.due("another's", 0, () -> y.told(10 + k, 30));
            for (int n : new int[] {-1, 32, Integer.MAX_VALUE, Integer.MIN_VALUE}) {
                c.refused("told(" + (10 + k) + ", " + n + ")", NO_SUCH, () -> y.told(10 + k, n));
                c.due("DEPTH, n not looked at", 2, () -> y.told(0, n));
                c.due("KEPT, n not looked at", k + 1, () -> y.told(1, n));
            }
        }
        for (int what : new int[] {-1, 2, 9, 15, 16, Integer.MAX_VALUE, Integer.MIN_VALUE}) {
            c.refused("told(" + what + ", 0)", WRONG, () -> y.told(what, 0));
            c.refused("told(" + what + ", 32)", WRONG, () -> y.told(what, 32));
        }
    }
}
