/** Promises 4, 8 to 10 (what is KEPT) and 12 to 16: GROUPS, what they give back, TOKENS behind them. */
public final class GroupsTest {
    private static final Class<UnsupportedOperationException> FULL = UnsupportedOperationException.class;
    private static final Class<IndexOutOfBoundsException> NO_SUCH = IndexOutOfBoundsException.class;
    private static final Checks c = new Checks();

    public static void main(String[] args) {
        depth();
        eachKindComesBack();
        theLatestGoesFirst();
        setForAllStays();
        anOuterGroupsPileStays();
        twoHundredAreKept();
        overflowOnAFullPile();
        tokensBehind();
        sixtyTokensBehind();
        afterIsRefused();
        restoredIsRefused();
        c.end();
    }

    private static void depth() {
        RegisterRows x = new RegisterRows();
        for (int d = 1; d <= 20; d++) {
            int depth = d;
            c.due("group " + depth, depth, x::group);
            c.due("DEPTH", depth, () -> x.told(0, -7));
            c.due("set", 1, () -> x.set(0, 0, depth, false));
            c.due("LEVEL", depth, () -> x.told(10, 0));
        }
        c.refused("the 21st", FULL, x::group);
        c.due("DEPTH", 20, () -> x.told(0, 0));
        for (int d = 19; d >= 0; d--) {
            int depth = d;
            c.due("end", 1, x::end);
            c.due("DEPTH", depth, () -> x.told(0, 0));
            c.due("get", depth, () -> x.get(0, 0));
            c.due("LEVEL", depth, () -> x.told(10, 0));
        }
        c.refused("end of none", IllegalStateException.class, x::end);
        c.due("a GROUP again", 1, x::group);
    }

    private static void eachKindComesBack() {
        RegisterRows x = new RegisterRows();
        fill(x, 1);
        x.group();
        fill(x, 2);
        c.due("KEPT", 5, () -> x.told(1, 0));
        fill(x, 3);
        c.due("once each", 5, () -> x.told(1, 0));
        c.due("end", 5, x::end);
        c.due("none KEPT", 0, () -> x.told(1, 0));
        c.due("COUNT", 1, () -> x.get(0, 6));
        c.due("LENGTH", 1, () -> x.get(1, 6));
        c.dueText("GLUE", "0.00002pt plus 0.00003fil minus 0.00005filll", Checks.shown(x, 2, 6));
        c.dueText("ROW", "A", Checks.shown(x, 3, 6));
        c.due("BOX", 1, () -> x.get(4, 6));
        for (int i = 0; i < 5; i++) {
            int went = i;
            c.due("KIND that went", 4 - went, () -> x.restored(went, 0));
            c.due("its REGISTER", 6, () -> x.restored(went, 1));
            c.due("again", 1, () -> x.restored(went, 2));
        }
    }

    private static void fill(RegisterRows x, int v) {
        x.set(0, 6, v, false);
        x.set(1, 6, v, false);
        x.glue(v, v + 1, 1, v + 2, 3);
        x.set(2, 6, 0, false);
        for (int i = 0; i < v; i++) {
            x.token(64 + v);
        }
        x.set(3, 6, 0, false);
        x.set(4, 6, v, false);
    }

    private static void theLatestGoesFirst() {
        RegisterRows x = new RegisterRows();
        x.group();
        x.set(0, 1, 10, false);
        x.set(1, 2, 20, false);
        x.set(0, 1, 11, true);
        x.set(0, 1, 12, false);
        x.set(4, 3, 30, false);
        c.due("KEPT", 4, () -> x.told(1, 0));
        c.due("end", 3, x::end);
        long[][] went = {{4, 3, 1}, {0, 1, 1}, {1, 2, 1}, {0, 1, 0}};
        for (int i = 0; i < 4; i++) {
            for (int what = 0; what < 3; what++) {
                int w = what;
                int at = i;
                c.due("restored(" + at + ", " + w + ")", went[at][w], () -> x.restored(at, w));
            }
        }
        c.due("what was set for all", 11, () -> x.get(0, 1));
        c.due("its LEVEL", 0, () -> x.told(10, 1));
    }

    private static void setForAllStays() {
        RegisterRows x = new RegisterRows();
        x.set(0, 0, 1, false);
        x.group();
        x.set(0, 0, 2, false);
        x.group();
        x.set(0, 0, 3, false);
        x.group();
        x.set(0, 0, 4, true);
        c.due("KEPT", 2, () -> x.told(1, 0));
        c.due("end", 0, x::end);
        c.refused("nothing went", NO_SUCH, () -> x.restored(0, 0));
        c.due("end", 0, x::end);
        c.due("it went", 0, () -> x.restored(0, 2));
        c.due("end", 0, x::end);
        c.due("it stays", 4, () -> x.get(0, 0));
    }

    private static void anOuterGroupsPileStays() {
        RegisterRows x = new RegisterRows();
        x.group();
        x.set(0, 0, 5, false);
        x.group();
        x.set(0, 1, 6, false);
        x.set(0, 0, 7, false);
        c.due("end", 2, x::end);
        c.due("KEPT", 1, () -> x.told(1, 0));
        c.due("as in the outer GROUP", 5, () -> x.get(0, 0));
        c.due("with its LEVEL", 1, () -> x.told(10, 0));
        x.group();
        c.due("what the latest left, still", 0, () -> x.restored(1, 0));
        c.due("end of one with nothing", 0, x::end);
        c.refused("nothing went", NO_SUCH, () -> x.restored(0, 0));
        c.due("KEPT", 1, () -> x.told(1, 0));
        c.due("end", 1, x::end);
        c.due("as outside", 0, () -> x.get(0, 0));
    }

    /** A REGISTER of each KIND 200 times in all: GROUPS of 10 REGISTERS each, 20 deep. */
    private static RegisterRows fullPile() {
        RegisterRows x = new RegisterRows();
        for (int d = 1; d <= 20; d++) {
            x.group();
            for (int n = 0; n < 10; n++) {
                if (n % 5 == 3) {
                    x.token(d);
                    x.token(n);
                }
                x.glue(d, n, 1, d, 2);
                x.set(n % 5, n, d, false);
            }
        }
        return x;
    }

    private static void twoHundredAreKept() {
        RegisterRows x = fullPile();
        c.due("KEPT", 200, () -> x.told(1, 0));
        x.token(65);
        x.set(4, 20, 7, true);
        for (int kind = 0; kind < 5; kind++) {
            int k = kind;
            c.refused("one more of KIND " + k, FULL, () -> x.set(k, 20, 3, false));
            c.due("for all it goes", 1, () -> x.set(k, 21, 3, true));
            if (k < 3) {
                c.refused("add", FULL, () -> x.add(k, 20, 3, false));
                c.refused("multiply", FULL, () -> x.multiply(k, 20, 3, false));
                c.refused("divide", FULL, () -> x.divide(k, 20, 3, false));
                c.refused("divide by 0", ArithmeticException.class, () -> x.divide(k, 20, 0, false));
            }
        }
        c.refused("no REGISTER ahead", NO_SUCH, () -> x.set(0, 32, 3, false));
        c.refused("no KIND ahead", IllegalArgumentException.class, () -> x.set(5, 32, 3, false));
        c.due("nothing was set", 0, () -> x.get(0, 20));
        c.due("what was KEPT already", 1, () -> x.set(0, 0, 77, false));
        c.due("the ROW went with the set for all", 1, () -> x.get(3, 21));
        c.due("KEPT", 200, () -> x.told(1, 0));
        x.token(66);
        c.refused("a ROW on a full pile", FULL, () -> x.set(3, 20, 0, false));
        c.due("still waits", 2, () -> x.token(67));
        for (int d = 19; d >= 1; d--) {
            int depth = d;
            c.due("end", 10, x::end);
            c.due("KEPT", depth * 10, () -> x.told(1, 0));
            c.due("COUNT", depth, () -> x.get(0, 5));
            c.due("GLUE", depth, () -> x.get(2, 7));
            c.due("ROW", depth, () -> x.at(8, 0));
            c.due("its second", 8, () -> x.at(8, 1));
            c.due("BOX", depth, () -> x.get(4, 9));
            c.due("the last that went", 0, () -> x.restored(9, 1));
            c.refused("no more went", NO_SUCH, () -> x.restored(10, 1));
        }
        c.due("end", 10, x::end);
        c.due("ROW", 0, () -> x.get(3, 8));
        c.due("BOX", -1, () -> x.get(4, 9));
        allFromOneGroup();
    }

    private static void allFromOneGroup() {
        RegisterRows x = new RegisterRows();
        x.group();
        for (int i = 0; i < 160; i++) {
            x.set(i / 32, i % 32, 5, false);
        }
        for (int i = 0; i < 40; i++) {
            x.set(0, 0, i, true);
            x.set(0, 0, i, false);
        }
        c.due("KEPT", 200, () -> x.told(1, 0));
        // The COUNT set for all comes back once, by its latest; its 40 others stay what they are.
        c.due("end", 160, x::end);
        c.due("the first that went", 1, () -> x.restored(0, 2));
        c.due("the second", 0, () -> x.restored(1, 2));
        c.due("the last that went", 0, () -> x.restored(199, 2));
        c.refused("no more", NO_SUCH, () -> x.restored(200, 2));
        c.due("get", 39, () -> x.get(0, 0));
    }

    private static void overflowOnAFullPile() {
        RegisterRows x = fullPile();
        // Of OVERFLOW nothing would be KEPT, so the full pile is no matter.
        c.due("set", 0, () -> x.set(0, 20, 1L << 40, false));
        c.due("add", 0, () -> x.add(1, 20, 1L << 40, false));
        c.due("multiply", 0, () -> x.multiply(2, 20, 1L << 40, false));
    }

    private static void tokensBehind() {
        RegisterRows x = new RegisterRows();
        x.group();
        c.due("after", 1, () -> x.after(0));
        c.due("after", 2, () -> x.after(255));
        x.group();
        c.due("after, inner", 1, () -> x.after(7));
        c.due("none told yet", -1, () -> x.behind(0));
        x.end();
        c.due("behind(0)", 7, () -> x.behind(0));
        c.due("behind(1)", -1, () -> x.behind(1));
        c.due("after, outer again", 3, () -> x.after(8));
        c.due("behind stays until the next end", 7, () -> x.behind(0));
        x.end();
        c.due("behind(0)", 0, () -> x.behind(0));
        c.due("behind(1)", 255, () -> x.behind(1));
        c.due("behind(2)", 8, () -> x.behind(2));
        for (int i : new int[] {3, 60, -1, Integer.MAX_VALUE, Integer.MIN_VALUE}) {
            c.due("behind(" + i + ")", -1, () -> x.behind(i));
        }
        x.group();
        c.due("a new GROUP's", 1, () -> x.after(9));
        c.due("the ended one's", 0, () -> x.behind(0));
        x.end();
        c.due("now its own", 9, () -> x.behind(0));
        x.group();
        x.end();
        c.due("none", -1, () -> x.behind(0));
    }

    private static void sixtyTokensBehind() {
        RegisterRows x = new RegisterRows();
        for (int d = 1; d <= 3; d++) {
            x.group();
            for (int i = 1; i <= 20; i++) {
                int many = i;
                c.due("after", many, () -> x.after(many));
            }
        }
        c.refused("the 61st", FULL, () -> x.after(1));
        c.refused("no TOKEN ahead", IllegalArgumentException.class, () -> x.after(256));
        x.group();
        c.refused("for another GROUP", FULL, () -> x.after(1));
        x.end();
        x.end();
        c.due("the last", 20, () -> x.behind(19));
        for (int i = 21; i <= 40; i++) {
            int many = i;
            c.due("room again", many, () -> x.after(many));
        }
        c.refused("60 again", FULL, () -> x.after(1));
        x.end();
        c.due("the 40th", 40, () -> x.behind(39));
        c.due("no 41st", -1, () -> x.behind(40));
        x.end();
        x.group();
        for (int i = 1; i <= 60; i++) {
            int many = i;
            c.due("after", many, () -> x.after(many));
        }
        x.end();
        c.due("the 60th", 60, () -> x.behind(59));
        c.due("no 61st", -1, () -> x.behind(60));
    }

    private static void afterIsRefused() {
        RegisterRows x = new RegisterRows();
        for (int t : new int[] {-1, 256, Integer.MAX_VALUE, Integer.MIN_VALUE}) {
            c.refused("after(" + t + ") outside", IllegalArgumentException.class, () -> x.after(t));
        }
        c.refused("after(0) outside", IllegalStateException.class, () -> x.after(0));
        x.group();
        c.refused("after(256)", IllegalArgumentException.class, () -> x.after(256));
        c.due("after(255)", 1, () -> x.after(255));
        x.end();
        c.refused("after(0) outside again", IllegalStateException.class, () -> x.after(0));
    }

    private static void restoredIsRefused() {
        RegisterRows x = new RegisterRows();
        x.group();
        x.set(3, 31, 0, false);
        x.end();
        c.due("restored(0, 1)", 31, () -> x.restored(0, 1));
        for (int i : new int[] {-1, 1, 200, Integer.MAX_VALUE, Integer.MIN_VALUE}) {
            c.refused("restored(" + i + ", 0)", NO_SUCH, () -> x.restored(i, 0));
        }
        for (int what : new int[] {-1, 3, Integer.MAX_VALUE, Integer.MIN_VALUE}) {
            c.refused("restored(0, " + what + ")", NO_SUCH, () -> x.restored(0, what));
        }
    }
}
