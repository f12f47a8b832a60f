import java.util.EnumMap;
import java.util.Map;

/**
 * Calls that change nothing, on a new object and on such as have been used: those that throw (which exception, which
 * comes first where several fit, the first value that is refused at both ends), OVERFLOW, NONE, and those that only
 * tell. Behind each the object is held whole against one that has not had the call.
 */
public final class RefusedTest {
    private interface Use {
        long on(RegisterRows x);
    }

    private static final Class<IllegalArgumentException> WRONG = IllegalArgumentException.class;
    private static final Class<IndexOutOfBoundsException> NO_SUCH = IndexOutOfBoundsException.class;
    private static final Class<UnsupportedOperationException> FULL = UnsupportedOperationException.class;
    private static final Class<IllegalStateException> STATE = IllegalStateException.class;
    private static final Class<ArithmeticException> BY_ZERO = ArithmeticException.class;

    private static final int MOST = Integer.MAX_VALUE;
    private static final int LEAST = Integer.MIN_VALUE;
    private static final int[] NO_TOKENS = {-1, 256, MOST, LEAST};
    private static final int[] NO_ORDERS = {-1, 4, MOST, LEAST};
    private static final int[] NO_KINDS = {-1, 5, MOST, LEAST};
    private static final int[] NO_SUMS = {-1, 3, 4, 5, MOST, LEAST};
    private static final int[] NO_REGISTERS = {-1, 32, MOST, LEAST};
    private static final int[] ANY_REGISTERS = {0, 31, -1, 32};
    /** Some of these and of NO_BOXES are within the bounds when they are cut off to 32 bits. */
    private static final long[] NO_LENGTHS = {1073741824L, -1073741824L, 1L << 32, Long.MAX_VALUE, Long.MIN_VALUE};
    private static final long[] NO_BOXES = {-2, 1000, 1L << 32, (1L << 32) + 5, (1L << 32) - 1, Long.MAX_VALUE,
        Long.MIN_VALUE};

    private static final Checks c = new Checks();
    private static final Map<States, String> WHOLE = new EnumMap<>(States.class);

    public static void main(String[] args) {
        for (States state : States.values()) {
            WHOLE.put(state, Whole.of(state::make));
        }
        noToken();
        noGlue();
        noSet();
        fullPile();
        noReading();
        noSum();
        noQuotient();
        noTake();
        noGroup();
        noAfter();
        noEnd();
        noRestored();
        noScaled();
        noFraction();
        noShown();
        noTold();
        overflow();
        none();
        tellingOnly();
        c.end();
    }

    private static void refused(String call, Class<? extends RuntimeException> want, Use use) {
        for (States state : States.values()) {
            refused(state, call, want, use);
        }
    }

    private static void refused(States state, String call, Class<? extends RuntimeException> want, Use use) {
        RegisterRows x = state.make();
        c.refused(state + ": " + call, want, () -> use.on(x));
        stays(state, call, use);
    }

    private static void due(String call, long want, Use use) {
        for (States state : States.values()) {
            due(state, call, want, use);
        }
    }

    private static void due(States state, String call, long want, Use use) {
        RegisterRows x = state.make();
        c.due(state + ": " + call, want, () -> use.on(x));
        stays(state, call, use);
    }

    private static void stays(States state, String call, Use use) {
        String whole = Whole.of(() -> {
            RegisterRows x = state.make();
            try {
                use.on(x);
            } catch (RuntimeException e) {
                // Whether it is the one that is due has been looked at before.
            }
            return x;
        });
        c.dueText(state + ": the object behind " + call, WHOLE.get(state), whole);
    }

    private static void noToken() {
        for (int t : NO_TOKENS) {
            refused("token(" + t + ")", WRONG, x -> x.token(t));
        }
    }

    private static void noGlue() {
        for (long v : NO_LENGTHS) {
            refused("natural " + v, WRONG, x -> Checks.glue(x, v, 8, 3, 8, 3));
            refused("stretch " + v, WRONG, x -> Checks.glue(x, 8, v, 3, 8, 3));
            refused("shrink " + v, WRONG, x -> Checks.glue(x, 8, 8, 3, v, 3));
        }
        for (int by : NO_ORDERS) {
            refused("ORDER of the stretch " + by, WRONG, x -> Checks.glue(x, 8, 8, by, 8, 3));
            refused("ORDER of the shrink " + by, WRONG, x -> Checks.glue(x, 8, 8, 3, 8, by));
            refused("ORDER " + by + " of a stretch of 0", WRONG, x -> Checks.glue(x, 8, 0, by, 8, 3));
            refused("ORDER " + by + " of a shrink of 0", WRONG, x -> Checks.glue(x, 8, 8, 3, 0, by));
        }
    }

    private static void noSet() {
        for (int n : ANY_REGISTERS) {
            for (int kind : NO_KINDS) {
                refused("set(" + kind + ", " + n + ", 5)", WRONG, x -> x.set(kind, n, 5, n == 0));
            }
            for (long v : NO_BOXES) {
                refused("set(4, " + n + ", " + v + ")", WRONG, x -> x.set(4, n, v, n == 0));
            }
        }
        for (int n : NO_REGISTERS) {
            for (int kind = 0; kind <= 4; kind++) {
                int k = kind;
                refused("set(" + k + ", " + n + ", 5)", NO_SUCH, x -> x.set(k, n, 5, false));
                refused("set(" + k + ", " + n + ", 5, true)", NO_SUCH, x -> x.set(k, n, 5, true));
            }
            refused("set with OVERFLOW", NO_SUCH, x -> x.set(0, n, Long.MAX_VALUE, false));
        }
    }

    private static void fullPile() {
        for (int kind = 0; kind <= 4; kind++) {
            int k = kind;
            for (int n = 2; n <= 31; n += 29) {
                int r = n;
                refused(States.FULL, "set(" + k + ", " + r + ")", FULL, x -> x.set(k, r, 5, false));
            }
        }
        for (int kind = 0; kind <= 2; kind++) {
            int k = kind;
            refused(States.FULL, "add to KIND " + k, FULL, x -> x.add(k, 31, 1, false));
            refused(States.FULL, "multiply KIND " + k, FULL, x -> x.multiply(k, 31, 1, false));
            refused(States.FULL, "divide KIND " + k, FULL, x -> x.divide(k, 31, 1, false));
        }
    }

    private static void noReading() {
        for (int n : ANY_REGISTERS) {
            for (int kind : NO_KINDS) {
                refused("get(" + kind + ", " + n + ")", WRONG, x -> x.get(kind, n));
            }
        }
        for (int n : NO_REGISTERS) {
            for (int kind = 0; kind <= 4; kind++) {
                int k = kind;
                refused("get(" + k + ", " + n + ")", NO_SUCH, x -> x.get(k, n));
            }
            refused("part(" + n + ", 0)", NO_SUCH, x -> x.part(n, 0));
            refused("part(" + n + ", 5)", NO_SUCH, x -> x.part(n, 5));
            refused("at(" + n + ", 0)", NO_SUCH, x -> x.at(n, 0));
        }
        for (int what : new int[] {-1, 5, MOST, LEAST}) {
            refused("part(0, " + what + ")", NO_SUCH, x -> x.part(0, what));
            refused("part(31, " + what + ")", NO_SUCH, x -> x.part(31, what));
        }
        for (int i : new int[] {0, -1, 19, 20, MOST, LEAST}) {
            refused("at(31, " + i + ") of an empty ROW", NO_SUCH, x -> x.at(31, i));
        }
        refused(States.BUSY, "at(3, 2) of two", NO_SUCH, x -> x.at(3, 2));
        refused(States.BUSY, "at(3, -1) of two", NO_SUCH, x -> x.at(3, -1));
    }

    private static void noSum() {
        for (int n : ANY_REGISTERS) {
            for (int kind : NO_SUMS) {
                refused("add(" + kind + ", " + n + ", 1)", WRONG, x -> x.add(kind, n, 1, false));
                refused("multiply(" + kind + ", " + n + ", 1)", WRONG, x -> x.multiply(kind, n, 1, false));
            }
        }
        for (int n : NO_REGISTERS) {
            for (int kind = 0; kind <= 2; kind++) {
                int k = kind;
                refused("add(" + k + ", " + n + ", 0)", NO_SUCH, x -> x.add(k, n, 0, false));
                refused("add(" + k + ", " + n + ", most)", NO_SUCH, x -> x.add(k, n, Long.MAX_VALUE, true));
                refused("multiply(" + k + ", " + n + ", 0)", NO_SUCH, x -> x.multiply(k, n, 0, false));
                refused("multiply(" + k + ", " + n + ", most)", NO_SUCH, x -> x.multiply(k, n, Long.MAX_VALUE, true));
            }
        }
        for (long v : new long[] {-1, 32, 1L << 32, (1L << 32) + 31, Long.MAX_VALUE, Long.MIN_VALUE}) {
            for (int n : ANY_REGISTERS) {
                refused("add(2, " + n + ", " + v + ")", NO_SUCH, x -> x.add(2, n, v, false));
            }
        }
    }

    private static void noQuotient() {
        for (int n : ANY_REGISTERS) {
            for (int kind : NO_SUMS) {
                refused("divide(" + kind + ", " + n + ", 1)", WRONG, x -> x.divide(kind, n, 1, false));
                refused("divide(" + kind + ", " + n + ", 0)", WRONG, x -> x.divide(kind, n, 0, false));
            }
        }
        for (int kind = 0; kind <= 2; kind++) {
            int k = kind;
            for (int n : NO_REGISTERS) {
                refused("divide(" + k + ", " + n + ", 1)", NO_SUCH, x -> x.divide(k, n, 1, false));
                refused("divide(" + k + ", " + n + ", 0)", NO_SUCH, x -> x.divide(k, n, 0, false));
            }
            // On the full object a KEPT REGISTER more is due too: the divisor comes ahead of that.
            for (int n : new int[] {0, 8, 31}) {
                refused("divide(" + k + ", " + n + ", 0)", BY_ZERO, x -> x.divide(k, n, 0, false));
                refused("divide(" + k + ", " + n + ", 0, true)", BY_ZERO, x -> x.divide(k, n, 0, true));
            }
        }
    }

    private static void noTake() {
        for (int n : NO_REGISTERS) {
            refused("take(" + n + ")", NO_SUCH, x -> x.take(n));
        }
    }

    private static void noGroup() {
        refused(States.FULL, "group()", FULL, RegisterRows::group);
    }

    private static void noAfter() {
        for (int t : NO_TOKENS) {
            refused("after(" + t + ")", WRONG, x -> x.after(t));
        }
        for (States outside : new States[] {States.NEW, States.ENDED}) {
            refused(outside, "after(0)", STATE, x -> x.after(0));
            refused(outside, "after(255)", STATE, x -> x.after(255));
        }
        refused(States.FULL, "after(0)", FULL, x -> x.after(0));
        refused(States.FULL, "after(255)", FULL, x -> x.after(255));
    }

    private static void noEnd() {
        refused(States.NEW, "end()", STATE, RegisterRows::end);
        refused(States.ENDED, "end()", STATE, RegisterRows::end);
    }

    private static void noRestored() {
        for (int i : new int[] {-1, 200, MOST, LEAST}) {
            refused("restored(" + i + ", 0)", NO_SUCH, x -> x.restored(i, 0));
        }
        for (int what : new int[] {-1, 3, MOST, LEAST}) {
            refused("restored(0, " + what + ")", NO_SUCH, x -> x.restored(0, what));
        }
        refused(States.NEW, "restored(0, 0)", NO_SUCH, x -> x.restored(0, 0));
        refused(States.ENDED, "restored(5, 2) of five", NO_SUCH, x -> x.restored(5, 2));
        refused(States.BUSY, "restored(6, 2) of six", NO_SUCH, x -> x.restored(6, 2));
        refused(States.FULL, "restored(1, 2) of one", NO_SUCH, x -> x.restored(1, 2));
    }

    private static void noScaled() {
        for (int unit = 0; unit <= 8; unit++) {
            int u = unit;
            for (int up : new int[] {-1, 1073741824, MOST, LEAST}) {
                refused("scaled(" + up + ", 0, " + u + ")", WRONG, x -> x.scaled(up, 0, u));
            }
            for (int down : new int[] {-1, 65536, MOST, LEAST}) {
                if (u < 8) {
                    refused("scaled(0, " + down + ", " + u + ")", WRONG, x -> x.scaled(0, down, u));
                    // Refused ahead of NONE.
                    refused("scaled(most, " + down + ", " + u + ")", WRONG, x -> x.scaled(1073741823, down, u));
                }
            }
        }
        for (int unit : new int[] {-1, 9, MOST, LEAST}) {
            refused("scaled(0, 0, " + unit + ")", WRONG, x -> x.scaled(0, 0, unit));
            refused("scaled(most, 0, " + unit + ")", WRONG, x -> x.scaled(1073741823, 0, unit));
        }
    }

    private static void noFraction() {
        for (int many : new int[] {0, -1, 10, MOST, LEAST}) {
            refused("fraction(0, " + many + ")", WRONG, x -> x.fraction(0, many));
        }
        int beyond = 10;
        for (int many = 1; many <= 9; many++) {
            int m = many;
            for (int digits : new int[] {beyond, -1, MOST, LEAST}) {
                refused("fraction(" + digits + ", " + m + ")", WRONG, x -> x.fraction(digits, m));
            }
            beyond = many < 9 ? beyond * 10 : beyond;
        }
    }

    private static void noShown() {
        for (int n : ANY_REGISTERS) {
            for (int kind : NO_KINDS) {
                refused("shown(" + kind + ", " + n + ", 0)", WRONG, x -> x.shown(kind, n, 0));
            }
        }
        for (int n : NO_REGISTERS) {
            for (int kind = 0; kind <= 4; kind++) {
                int k = kind;
                refused("shown(" + k + ", " + n + ", 0)", NO_SUCH, x -> x.shown(k, n, 0));
                refused("shown(" + k + ", " + n + ", -1)", NO_SUCH, x -> x.shown(k, n, -1));
            }
        }
    }

    private static void noTold() {
        for (int n : ANY_REGISTERS) {
            for (int what : new int[] {-1, 2, 9, 15, MOST, LEAST}) {
                refused("told(" + what + ", " + n + ")", WRONG, x -> x.told(what, n));
            }
        }
        for (int n : NO_REGISTERS) {
            for (int what = 10; what <= 14; what++) {
                int w = what;
                refused("told(" + w + ", " + n + ")", NO_SUCH, x -> x.told(w, n));
            }
        }
    }

    /** Nothing is done; nor is anything KEPT, so that a full pile is no matter. */
    private static void overflow() {
        for (int i = 0; i < 2; i++) {
            boolean all = i == 1;
            for (int n : new int[] {0, 31}) {
                String in = " of " + n + ", " + all;
                for (long v : new long[] {2147483648L, -2147483648L, 1L << 32, Long.MAX_VALUE, Long.MIN_VALUE}) {
                    due("set COUNT" + in + " to " + v, 0, x -> x.set(0, n, v, all));
                    due("multiply COUNT" + in + " by " + v, 0, x -> x.multiply(0, n, v, all));
                    due("multiply LENGTH" + in + " by " + v, 0, x -> x.multiply(1, n, v, all));
                    due("multiply GLUE" + in + " by " + v, 0, x -> x.multiply(2, n, v, all));
                }
                for (long v : NO_LENGTHS) {
                    due("set LENGTH" + in + " to " + v, 0, x -> x.set(1, n, v, all));
                }
            }
            for (long v : new long[] {1, 1L << 32, Long.MAX_VALUE, Long.MIN_VALUE}) {
                due(States.FULL, "add " + v + " to the most COUNT, " + all, 0, x -> x.add(0, 8, v, all));
                due(States.FULL, "add " + v + " to the most LENGTH, " + all, 0, x -> x.add(1, 8, v, all));
            }
            for (int kind = 0; kind <= 2; kind++) {
                int k = kind;
                due(States.FULL, "twice KIND " + k + ", " + all, 0, x -> x.multiply(k, 8, 2, all));
            }
            due(States.FULL, "GLUE to itself, " + all, 0, x -> x.add(2, 8, 8, all));
        }
    }

    private static void none() {
        due(States.FULL, "a TOKEN more in the ROW", -1, x -> x.token(0));
        due(States.FULL, "and another", -1, x -> x.token(255));
        due("take of a VOID", -1, x -> x.take(31));
    }

    private static void tellingOnly() {
        due("scaled", 65537, x -> x.scaled(1, 1, 0));
        due("scaled beyond", -1, x -> x.scaled(16384, 0, 0));
        due("fraction", 32768, x -> x.fraction(5, 1));
        due("behind(-1)", -1, x -> x.behind(-1));
        due("behind(60)", -1, x -> x.behind(60));
        due("sign of a ROW", -1, x -> x.shown(3, 31, 0));
        due("sign of a BOX", 'v', x -> x.shown(4, 31, 0));
        due("sign of a GLUE", 't', x -> x.shown(2, 31, 4));
        due("get", 0, x -> x.get(2, 31));
        due("part", 0, x -> x.part(31, 1));
        due("LEVEL", 0, x -> x.told(12, 31));
        due(States.BUSY, "at", 72, x -> x.at(2, 1));
        due(States.BUSY, "restored", 4, x -> x.restored(1, 0));
        due(States.BUSY, "behind", 43, x -> x.behind(0));
        due(States.FULL, "KEPT", 200, x -> x.told(1, 0));
        due(States.FULL, "DEPTH", 20, x -> x.told(0, 0));
    }
}
