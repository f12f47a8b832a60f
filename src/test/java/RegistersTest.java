/** Promises 1 to 7 and 11: a new object, what waits, setting, reading, taking. */
public final class RegistersTest {
    private static final Class<IllegalArgumentException> WRONG = IllegalArgumentException.class;
    private static final Class<IndexOutOfBoundsException> NO_SUCH = IndexOutOfBoundsException.class;
    private static final Checks c = new Checks();

    public static void main(String[] args) {
        newObject();
        tokensWait();
        glueWaits();
        glueIsRefused();
        setWithinBounds();
        setIsRefused();
        setRowEmptiesTheRowThatWaits();
        setGlueLeavesTheGlueThatWaits();
        reading();
        taking();
        c.end();
    }

    private static void newObject() {
        RegisterRows x = new RegisterRows();
        c.due("DEPTH of a new object", 0, () -> x.told(0, 0));
        c.due("KEPT of a new object", 0, () -> x.told(1, 0));
        for (int n = 0; n < 32; n++) {
            int r = n;
            for (int kind = 0; kind < 5; kind++) {
                int k = kind;
                c.due("new get(" + k + ", " + r + ")", k == 4 ? -1 : 0, () -> x.get(k, r));
                c.due("new LEVEL of " + k + ", " + r, 0, () -> x.told(10 + k, r));
            }
            for (int what = 0; what < 5; what++) {
                int w = what;
                c.due("new part(" + r + ", " + w + ")", 0, () -> x.part(r, w));
            }
            c.refused("new at(" + r + ", 0)", NO_SUCH, () -> x.at(r, 0));
            c.due("new take(" + r + ")", -1, () -> x.take(r));
        }
        c.refused("new end()", IllegalStateException.class, x::end);
        c.refused("new restored(0, 0)", NO_SUCH, () -> x.restored(0, 0));
        c.due("new behind(0)", -1, () -> x.behind(0));
        c.due("the ROW that waits is empty", 1, () -> x.set(3, 0, 0, false));
        c.due("so is the REGISTER", 0, () -> x.get(3, 0));
        c.due("the GLUE that waits", 1, () -> x.set(2, 0, 0, false));
        c.dueText("is of 0", "0.0pt", Checks.shown(x, 2, 0));
    }

    private static void tokensWait() {
        RegisterRows x = new RegisterRows();
        c.refused("token(256)", WRONG, () -> x.token(256));
        c.refused("token(-1)", WRONG, () -> x.token(-1));
        c.refused("token(least)", WRONG, () -> x.token(Integer.MIN_VALUE));
        for (int i = 1; i <= 20; i++) {
            int t = i == 1 ? 0 : i == 2 ? 255 : i;
            int many = i;
            c.due("token(" + t + ")", many, () -> x.token(t));
        }
        c.due("the 21st", -1, () -> x.token(7));
        c.due("the 22nd", -1, () -> x.token(0));
        c.refused("a wrong one when there are 20", WRONG, () -> x.token(256));
        c.due("set", 1, () -> x.set(3, 31, 0, false));
        c.due("20 are in it", 20, () -> x.get(3, 31));
        c.due("the first", 0, () -> x.at(31, 0));
        c.due("the second", 255, () -> x.at(31, 1));
        c.due("the last", 20, () -> x.at(31, 19));
        c.refused("one more", NO_SUCH, () -> x.at(31, 20));
        c.refused("one before", NO_SUCH, () -> x.at(31, -1));
        c.due("token after that", 1, () -> x.token(9));
    }

    private static long glue(RegisterRows x, long natural, long stretch, int by, long shrink, int by2) {
        x.glue(natural, stretch, by, shrink, by2);
        return 0;
    }

    private static void parts(String call, RegisterRows x, int n, long... want) {
        for (int what = 0; what < 5; what++) {
            int w = what;
            c.due(call + ": part(" + n + ", " + w + ")", want[w], () -> x.part(n, w));
        }
    }

    private static void glueWaits() {
        RegisterRows x = new RegisterRows();
        c.due("glue of the bounds", 0, () -> glue(x, 1073741823, -1073741823, 3, 1073741823, 0));
        parts("not set yet", x, 4, 0, 0, 0, 0, 0);
        c.due("set", 1, () -> x.set(2, 4, 77, false));
        parts("set", x, 4, 1073741823, -1073741823, 3, 1073741823, 0);
        c.due("get", 1073741823, () -> x.get(2, 4));
        c.due("glue", 0, () -> glue(x, -1073741823, 1, 1, -2, 2));
        c.due("glue again", 0, () -> glue(x, -5, 0, 3, 0, 2));
        c.due("set", 1, () -> x.set(2, 5, 0, false));
        parts("the later one", x, 5, -5, 0, 3, 0, 2);
        parts("the other stays", x, 4, 1073741823, -1073741823, 3, 1073741823, 0);
    }

    private static void glueIsRefused() {
        RegisterRows x = new RegisterRows();
        glue(x, 1, 2, 1, 3, 2);
        long[] beyond = {1073741824L, -1073741824L, 4294967296L, Long.MAX_VALUE, Long.MIN_VALUE};
        for (long b : beyond) {
            c.refused("natural " + b, WRONG, () -> glue(x, b, 0, 0, 0, 0));
            c.refused("stretch " + b, WRONG, () -> glue(x, 0, b, 0, 0, 0));
            c.refused("shrink " + b, WRONG, () -> glue(x, 0, 0, 0, b, 0));
        }
        for (int by : new int[] {-1, 4, Integer.MAX_VALUE, Integer.MIN_VALUE}) {
            c.refused("stretch's ORDER " + by, WRONG, () -> glue(x, 0, 0, by, 0, 0));
            c.refused("shrink's ORDER " + by, WRONG, () -> glue(x, 0, 0, 0, 0, by));
        }
        c.due("set", 1, () -> x.set(2, 0, 0, false));
        parts("what waited still waits", x, 0, 1, 2, 1, 3, 2);
    }

    private static void setWithinBounds() {
        RegisterRows x = new RegisterRows();
        long[] most = {2147483647L, 1073741823L};
        for (int kind = 0; kind < 2; kind++) {
            int k = kind;
            long m = most[k];
            c.due("set to the most", 1, () -> x.set(k, 0, m, false));
            c.due("get", m, () -> x.get(k, 0));
            c.due("set to the least", 1, () -> x.set(k, 31, -m, true));
            c.due("get", -m, () -> x.get(k, 31));
            for (long beyond : new long[] {m + 1, -m - 1, m + 4294967297L, Long.MAX_VALUE, Long.MIN_VALUE}) {
                c.due("set(" + k + ", 0, " + beyond + ")", 0, () -> x.set(k, 0, beyond, false));
                c.due("for all", 0, () -> x.set(k, 0, beyond, true));
                c.due("it stays", m, () -> x.get(k, 0));
            }
        }
        for (long box : new long[] {0, 999, -1, 500}) {
            c.due("set(4, 7, " + box + ")", 1, () -> x.set(4, 7, box, false));
            c.due("get", box, () -> x.get(4, 7));
        }
        c.due("a COUNT is no LENGTH", 2147483647L, () -> x.get(0, 0));
    }

    private static void setIsRefused() {
        RegisterRows x = new RegisterRows();
        for (int kind : new int[] {-1, 5, Integer.MAX_VALUE, Integer.MIN_VALUE}) {
            c.refused("KIND " + kind, WRONG, () -> x.set(kind, 0, 0, false));
            c.refused("KIND ahead of REGISTER", WRONG, () -> x.set(kind, 32, 0, false));
        }
        for (int kind = 0; kind < 5; kind++) {
            int k = kind;
            for (int n : new int[] {-1, 32, Integer.MAX_VALUE, Integer.MIN_VALUE}) {
                c.refused("set(" + k + ", " + n + ")", NO_SUCH, () -> x.set(k, n, 0, false));
            }
        }
        c.refused("no REGISTER ahead of OVERFLOW", NO_SUCH, () -> x.set(0, 32, Long.MAX_VALUE, false));
        for (long box : new long[] {-2, 1000, 4294967296L, Long.MAX_VALUE, Long.MIN_VALUE}) {
            c.refused("BOX " + box, WRONG, () -> x.set(4, 0, box, false));
            c.refused("no BOX ahead of no REGISTER", WRONG, () -> x.set(4, 32, box, true));
        }
        c.due("nothing was set", -1, () -> x.get(4, 0));
    }

    private static void setRowEmptiesTheRowThatWaits() {
        RegisterRows x = new RegisterRows();
        x.token(65);
        x.token(66);
        c.refused("no REGISTER", NO_SUCH, () -> x.set(3, 32, 0, false));
        c.due("the ROW still waits", 3, () -> x.token(67));
        c.due("set", 1, () -> x.set(3, 1, Long.MAX_VALUE, false));
        c.due("get", 3, () -> x.get(3, 1));
        c.due("set again", 1, () -> x.set(3, 2, 0, false));
        c.due("empty", 0, () -> x.get(3, 2));
        c.refused("no TOKEN in it", NO_SUCH, () -> x.at(2, 0));
        c.due("token", 1, () -> x.token(68));
        c.due("set for all", 1, () -> x.set(3, 1, 0, true));
        c.due("shorter", 1, () -> x.get(3, 1));
        c.due("its TOKEN", 68, () -> x.at(1, 0));
        c.refused("nothing behind it", NO_SUCH, () -> x.at(1, 1));
        c.due("other KINDS leave the ROW", 1, () -> x.token(69));
        c.due("a COUNT", 1, () -> x.set(0, 1, 5, false));
        c.due("a GLUE", 1, () -> x.set(2, 1, 5, false));
        c.due("token", 2, () -> x.token(70));
    }

    private static void setGlueLeavesTheGlueThatWaits() {
        RegisterRows x = new RegisterRows();
        glue(x, 1, 2, 1, 3, 2);
        c.due("set", 1, () -> x.set(2, 0, 0, false));
        c.due("add to it", 1, () -> x.multiply(2, 0, 7, false));
        c.due("set another", 1, () -> x.set(2, 1, 0, false));
        parts("the same GLUE", x, 1, 1, 2, 1, 3, 2);
        parts("the first", x, 0, 7, 14, 1, 21, 2);
    }

    private static void reading() {
        RegisterRows x = new RegisterRows();
        for (int kind : new int[] {-1, 5, Integer.MIN_VALUE, Integer.MAX_VALUE}) {
            c.refused("get(" + kind + ", 0)", WRONG, () -> x.get(kind, 0));
            c.refused("KIND ahead of REGISTER", WRONG, () -> x.get(kind, -1));
        }
        for (int n : new int[] {-1, 32, Integer.MIN_VALUE, Integer.MAX_VALUE}) {
            for (int kind = 0; kind < 5; kind++) {
                int k = kind;
                c.refused("get(" + k + ", " + n + ")", NO_SUCH, () -> x.get(k, n));
            }
            c.refused("part(" + n + ", 0)", NO_SUCH, () -> x.part(n, 0));
            c.refused("at(" + n + ", 0)", NO_SUCH, () -> x.at(n, 0));
            c.refused("part(0, " + n + ")", NO_SUCH, () -> x.part(0, n));
            c.refused("at(0, " + n + ")", NO_SUCH, () -> x.at(0, n));
        }
        c.refused("part(0, 5)", NO_SUCH, () -> x.part(0, 5));
        c.refused("part(31, 5)", NO_SUCH, () -> x.part(31, 5));
        for (int n = 0; n < 32; n++) {
            x.set(0, n, 100 + n, false);
            x.set(1, n, 200 + n, false);
            glue(x, 300 + n, 400 + n, n % 4, 500 + n, 3 - n % 4);
            x.set(2, n, 0, false);
            x.token(n);
            x.token(255 - n);
            x.set(3, n, 0, false);
            x.set(4, n, 600 + n, false);
        }
        for (int n = 0; n < 32; n++) {
            int r = n;
            c.due("COUNT " + r, 100 + r, () -> x.get(0, r));
            c.due("LENGTH " + r, 200 + r, () -> x.get(1, r));
            c.due("GLUE " + r, 300 + r, () -> x.get(2, r));
            parts("GLUE", x, r, 300 + r, 400 + r, r % 4, 500 + r, 3 - r % 4);
            c.due("ROW " + r, 2, () -> x.get(3, r));
            c.due("its first", r, () -> x.at(r, 0));
            c.due("its second", 255 - r, () -> x.at(r, 1));
            c.due("BOX " + r, 600 + r, () -> x.get(4, r));
        }
    }

    private static void taking() {
        RegisterRows x = new RegisterRows();
        for (int n : new int[] {-1, 32, Integer.MIN_VALUE, Integer.MAX_VALUE}) {
            c.refused("take(" + n + ")", NO_SUCH, () -> x.take(n));
        }
        x.set(4, 31, 0, false);
        c.due("take", 0, () -> x.take(31));
        c.due("it is VOID", -1, () -> x.get(4, 31));
        c.due("take again", -1, () -> x.take(31));
        x.set(4, 3, 5, false);
        x.group();
        c.due("take in a GROUP", 5, () -> x.take(3));
        c.due("its LEVEL stays", 0, () -> x.told(14, 3));
        c.due("nothing is KEPT", 0, () -> x.told(1, 0));
        x.set(4, 3, 6, false);
        c.due("KEPT", 1, () -> x.told(1, 0));
        x.group();
        c.due("take", 6, () -> x.take(3));
        c.due("its LEVEL stays", 1, () -> x.told(14, 3));
        c.due("still KEPT", 1, () -> x.told(1, 0));
        c.due("end", 0, x::end);
        c.due("VOID behind the inner GROUP", -1, () -> x.get(4, 3));
        c.due("end", 1, x::end);
        c.due("VOID, as it was KEPT", -1, () -> x.get(4, 3));
    }
}
