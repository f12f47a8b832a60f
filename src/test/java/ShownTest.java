/** Promises 19 and 20: how REGISTERS are SHOWN, and what is told. */
public final class ShownTest {
    private static final Class<IndexOutOfBoundsException> NO_SUCH = IndexOutOfBoundsException.class;
    private static final Checks c = new Checks();

    public static void main(String[] args) {
        counts();
        lengths();
        eachFraction();
        glue();
        longestGlue();
        rows();
        boxes();
        signsAtTheirBounds();
        told();
        toldAtItsBounds();
        c.end();
    }

    private static void shows(int kind, long v, String want) {
        RegisterRows x = new RegisterRows();
        x.set(kind, 9, v, false);
        c.dueText("KIND " + kind + ", " + v, want, Checks.shown(x, kind, 9));
    }

    private static void counts() {
        for (long v : new long[] {0, 1, 9, 10, 11, 99, 100, 101, 999999999, 1000000000, 1000000001, 2147483647}) {
            shows(0, v, Long.toString(v));
            shows(0, -v, Long.toString(-v));
        }
    }

    private static void lengths() {
        shows(1, 0, "0.0");
        shows(1, 65536, "1.0");
        shows(1, -65536, "-1.0");
        shows(1, 1, "0.00002");
        shows(1, -1, "-0.00002");
        shows(1, 2, "0.00003");
        shows(1, 6554, "0.1");
        shows(1, 32768, "0.5");
        shows(1, 1024, "0.01563");
        shows(1, 65535, "0.99998");
        shows(1, 65537, "1.00002");
        shows(1, 205887, "3.14159");
        shows(1, 655359, "9.99998");
        shows(1, 655360, "10.0");
        shows(1, 1073741823, "16383.99998");
        shows(1, -1073741823, "-16383.99998");
    }

    private static void eachFraction() {
        RegisterRows x = new RegisterRows();
        for (int part = 0; part < 65536; part++) {
            if (part % 50 == 0) {
                x = new RegisterRows();
            }
            x.set(1, 0, part, true);
            c.dueText("LENGTH " + part, "0." + digitsOf(part), Checks.shown(x, 1, 0));
        }
    }

    /**
     * The middle between this 65536th and the next, cut off to as few digits as lie no more than half a 65536th below
     * this one; where four are too few, the nearest five.
     */
    private static String digitsOf(int part) {
        long ten = 1;
        for (int many = 1; many <= 4; many++) {
            ten *= 10;
            long digits = ten * (2 * part + 1) / 131072;
            if (digits * 131072 >= ten * (2 * part - 1)) {
                return padded(digits, many);
            }
        }
        return padded((200000L * part + 65536) / 131072, 5);
    }

    private static String padded(long digits, int many) {
        String text = Long.toString(digits);
        return "0".repeat(many - text.length()) + text;
    }

    private static void showsGlue(String want, long natural, long stretch, int by, long shrink, int by2) {
        RegisterRows x = new RegisterRows();
        Checks.putGlue(x, 9, natural, stretch, by, shrink, by2);
        c.dueText("GLUE", want, Checks.shown(x, 2, 9));
    }

    private static void glue() {
        showsGlue("0.0pt", 0, 0, 0, 0, 0);
        showsGlue("0.0pt", 0, 0, 3, 0, 2);
        showsGlue("1.0pt plus 2.0fil minus 0.5pt", 65536, 131072, 1, 32768, 0);
        showsGlue("-1.0pt plus 1.0fill", -65536, 65536, 2, 0, 0);
        showsGlue("0.0pt plus -1.0pt", 0, -65536, 0, 0, 3);
        showsGlue("0.1pt minus -2.0filll", 6554, 0, 1, -131072, 3);
        showsGlue("0.0pt plus 0.00002filll minus 0.00002fil", 0, 1, 3, 1, 1);
        showsGlue("0.0pt plus -0.00002fil minus -0.00002fill", 0, -1, 1, -1, 2);
        showsGlue("0.0pt plus 0.00002pt minus 0.00002pt", 0, 1, 0, 1, 0);
    }

    private static void longestGlue() {
        RegisterRows x = new RegisterRows();
        Checks.putGlue(x, 9, -1073741823, -1073741823, 3, -1073741823, 3);
        String want = "-16383.99998pt plus -16383.99998filll minus -16383.99998filll";
        c.dueText("the longest", want, Checks.shown(x, 2, 9));
        c.due("its last sign", 'l', () -> x.shown(2, 9, want.length() - 1));
        c.due("none behind", -1, () -> x.shown(2, 9, want.length()));
    }

    private static void rows() {
        RegisterRows x = new RegisterRows();
        c.dueText("an empty ROW", "", Checks.shown(x, 3, 9));
        c.due("its first sign", -1, () -> x.shown(3, 9, 0));
        StringBuilder want = new StringBuilder();
        for (int i = 0; i < 20; i++) {
            int t = i * 13 % 256;
            x.token(t);
            want.append((char) t);
        }
        x.set(3, 9, 0, false);
        c.dueText("20 TOKENS", want.toString(), Checks.shown(x, 3, 9));
        c.due("the last", 247, () -> x.shown(3, 9, 19));
        c.due("none behind", -1, () -> x.shown(3, 9, 20));
        x.token(255);
        x.set(3, 9, 0, false);
        c.dueText("a shorter one", "\u00ff", Checks.shown(x, 3, 9));
    }

    private static void boxes() {
        for (int v : new int[] {0, 7, 9, 10, 99, 100, 999}) {
            shows(4, v, Integer.toString(v));
        }
        shows(4, -1, "void");
        RegisterRows x = new RegisterRows();
        c.dueText("VOID at first", "void", Checks.shown(x, 4, 9));
        x.set(4, 9, 5, false);
        x.take(9);
        c.dueText("taken", "void", Checks.shown(x, 4, 9));
    }

    private static void signsAtTheirBounds() {
        RegisterRows x = new RegisterRows();
        x.token(0);
        x.set(3, 31, 0, false);
        int[] manySigns = {1, 3, 5, 1, 4};
        int[] lastSigns = {'0', '0', 't', 0, 'd'};
        for (int kind = 0; kind <= 4; kind++) {
            int k = kind;
            c.due("the last sign of KIND " + k, lastSigns[k], () -> x.shown(k, 31, manySigns[k] - 1));
            for (int i : new int[] {manySigns[k], 61, -1, Integer.MAX_VALUE, Integer.MIN_VALUE}) {
                c.due("shown(" + k + ", 31, " + i + ")", -1, () -> x.shown(k, 31, i));
            }
        }
    }

    private static void told() {
        for (int kind = 0; kind < 5; kind++) {
            int k = kind;
            RegisterRows x = new RegisterRows();
            x.group();
            x.group();
            x.set(k, 31, 0, false);
            c.due("LEVEL", 2, () -> x.told(10 + k, 31));
            c.due("another's", 0, () -> x.told(10 + k, 30));
            c.due("another KIND's", 0, () -> x.told(10 + (k + 1) % 5, 31));
            x.set(k, 0, 0, false);
            c.due("LEVEL of the first", 2, () -> x.told(10 + k, 0));
            x.set(k, 0, 0, true);
            c.due("LEVEL of the first, FOR ALL", 0, () -> x.told(10 + k, 0));
            c.due("KEPT", 2, () -> x.told(1, 0));
            c.due("DEPTH", 2, () -> x.told(0, 0));
            x.end();
            c.due("LEVEL behind the GROUP", 0, () -> x.told(10 + k, 31));
            c.due("KEPT", 0, () -> x.told(1, 0));
            c.due("DEPTH", 1, () -> x.told(0, 0));
        }
    }

    private static void toldAtItsBounds() {
        RegisterRows x = new RegisterRows();
        x.group();
        x.set(0, 0, 0, false);
        x.set(0, 1, 0, false);
        for (int n : new int[] {-1, 0, 31, 32, Integer.MAX_VALUE, Integer.MIN_VALUE}) {
            c.due("DEPTH, n not looked at", 1, () -> x.told(0, n));
            c.due("KEPT, n not looked at", 2, () -> x.told(1, n));
        }
        for (int what = 10; what <= 14; what++) {
            int w = what;
            c.due("told(" + w + ", 31)", 0, () -> x.told(w, 31));
            c.refused("told(" + w + ", 32)", NO_SUCH, () -> x.told(w, 32));
            c.refused("told(" + w + ", -1)", NO_SUCH, () -> x.told(w, -1));
        }
    }
}
