/** Promises 8 to 10: sums, products and quotients of COUNTS, LENGTHS and GLUE. */
public final class SumsTest {
    private static final Class<IllegalArgumentException> WRONG = IllegalArgumentException.class;
    private static final Class<IndexOutOfBoundsException> NO_SUCH = IndexOutOfBoundsException.class;
    private static final Checks c = new Checks();

    public static void main(String[] args) {
        sums();
        sumsOfGlue();
        sumsOfGlueOverflow();
        products();
        quotients();
        refusals();
        levels();
        c.end();
    }

    private static void parts(String call, RegisterRows x, int n, long... want) {
        for (int what = 0; what < 5; what++) {
            int w = what;
            c.due(call + ": part(" + n + ", " + w + ")", want[w], () -> x.part(n, w));
        }
    }

    private static void put(RegisterRows x, int n, long natural, long stretch, int by, long shrink, int by2) {
        x.glue(natural, stretch, by, shrink, by2);
        x.set(2, n, 0, false);
    }

    private static void sums() {
        RegisterRows x = new RegisterRows();
        long[] most = {2147483647L, 1073741823L};
        for (int kind = 0; kind < 2; kind++) {
            int k = kind;
            long m = most[k];
            x.set(k, 1, 5, false);
            c.due("add", 1, () -> x.add(k, 1, -7, false));
            c.due("get", -2, () -> x.get(k, 1));
            c.due("add up to the most", 1, () -> x.add(k, 1, m + 2, false));
            c.due("get", m, () -> x.get(k, 1));
            c.due("add 1", 0, () -> x.add(k, 1, 1, false));
            c.due("it stays", m, () -> x.get(k, 1));
            c.due("from the most to the least", 1, () -> x.add(k, 1, -2 * m, false));
            c.due("get", -m, () -> x.get(k, 1));
            c.due("less 1", 0, () -> x.add(k, 1, -1, true));
            for (long v : new long[] {Long.MAX_VALUE, Long.MIN_VALUE, Long.MIN_VALUE + m, 1L << 32, 1L << 63}) {
                c.due("add " + v, 0, () -> x.add(k, 1, v, false));
            }
            c.due("it stays", -m, () -> x.get(k, 1));
            c.due("back", 1, () -> x.add(k, 1, 2 * m, true));
            c.due("get", m, () -> x.get(k, 1));
        }
    }

    private static void sumsOfGlue() {
        RegisterRows x = new RegisterRows();
        put(x, 1, 10, 20, 1, 30, 2);
        put(x, 2, 1, 2, 1, 3, 2);
        c.due("the same ORDERS", 1, () -> x.add(2, 1, 2, false));
        parts("summed", x, 1, 11, 22, 1, 33, 2);
        parts("the other stays", x, 2, 1, 2, 1, 3, 2);
        put(x, 3, 5, 7, 2, -8, 3);
        c.due("greater ORDERS", 1, () -> x.add(2, 1, 3, false));
        parts("come in place", x, 1, 16, 7, 2, -8, 3);
        c.due("less ORDERS", 1, () -> x.add(2, 1, 2, false));
        parts("nothing of them", x, 1, 17, 7, 2, -8, 3);
        put(x, 4, 0, 0, 3, 0, 3);
        put(x, 5, 0, 4, 2, 4, 0);
        c.due("greater ORDERS of 0", 1, () -> x.add(2, 5, 4, false));
        parts("do not come", x, 5, 0, 4, 2, 4, 0);
        c.due("to 0 of ORDER 3 one of ORDER 2", 1, () -> x.add(2, 4, 5, false));
        parts("comes in place; one of ORDER 0 is added", x, 4, 0, 4, 2, 4, 0);
        put(x, 6, 0, 0, 2, 0, 1);
        put(x, 7, 0, 0, 2, 0, 3);
        c.due("to 0 one of 0", 1, () -> x.add(2, 6, 7, false));
        parts("nothing", x, 6, 0, 0, 2, 0, 1);
        c.due("to itself", 1, () -> x.add(2, 1, 1, false));
        parts("doubled", x, 1, 34, 14, 2, -16, 3);
    }

    private static void sumsOfGlueOverflow() {
        long most = 1073741823L;
        for (int which = 0; which < 3; which++) {
            RegisterRows x = new RegisterRows();
            put(x, 1, which == 0 ? most : 1, which == 1 ? most : 1, 1, which == 2 ? -most : 1, 1);
            put(x, 2, 1, 1, 1, which == 2 ? -1 : 1, 1);
            c.due("OVERFLOW of part " + which, 0, () -> x.add(2, 1, 2, false));
            parts("it stays", x, 1, which == 0 ? most : 1, which == 1 ? most : 1, 1, which == 2 ? -most : 1, 1);
            put(x, 2, 0, 0, 1, 0, 1);
            c.due("no OVERFLOW", 1, () -> x.add(2, 1, 2, false));
            c.due("twice", 0, () -> x.multiply(2, 1, 2, false));
            c.due("minus once", 1, () -> x.multiply(2, 1, -1, false));
            parts("turned", x, 1, which == 0 ? -most : -1, which == 1 ? -most : -1, 1, which == 2 ? most : -1, 1);
        }
    }

    private static void products() {
        RegisterRows x = new RegisterRows();
        long most = 2147483647L;
        x.set(0, 0, 1, false);
        c.due("by the most", 1, () -> x.multiply(0, 0, most, false));
        c.due("by -1", 1, () -> x.multiply(0, 0, -1, false));
        c.due("get", -most, () -> x.get(0, 0));
        c.due("by 2", 0, () -> x.multiply(0, 0, 2, false));
        c.due("by the least", 0, () -> x.multiply(0, 0, -most, false));
        c.due("by 0", 1, () -> x.multiply(0, 0, 0, false));
        c.due("get", 0, () -> x.get(0, 0));
        for (long v : new long[] {most + 1, -most - 1, 1L << 32, Long.MAX_VALUE, Long.MIN_VALUE}) {
            c.due("0 by " + v, 0, () -> x.multiply(0, 0, v, false));
            c.due("GLUE of 0 by " + v, 0, () -> x.multiply(2, 0, v, false));
        }
        c.due("0 by the most", 1, () -> x.multiply(0, 0, most, false));
        c.due("0 by the least", 1, () -> x.multiply(0, 0, -most, false));
        x.set(1, 0, 32768, false);
        c.due("beyond the LENGTHS", 0, () -> x.multiply(1, 0, 32768, false));
        c.due("below", 0, () -> x.multiply(1, 0, -32768, false));
        c.due("within", 1, () -> x.multiply(1, 0, -32767, false));
        c.due("get", -1073709056, () -> x.get(1, 0));
        put(x, 3, 2, -3, 1, 4, 3);
        c.due("GLUE", 1, () -> x.multiply(2, 3, -5, false));
        parts("all three, not the ORDERS", x, 3, -10, 15, 1, -20, 3);
    }

    private static void quotients() {
        RegisterRows x = new RegisterRows();
        long[][] runs = {{7, 2, 3}, {-7, 2, -3}, {7, -2, -3}, {-7, -2, 3}, {6, 7, 0}, {-6, 7, 0}, {5, 1, 5}, {5, -1, -5},
            {1000000000, 2147483647, 0}, {1000000000, -2147483647, 0}, {1073741823, -1073741823, -1}};
        for (long[] run : runs) {
            for (int kind = 0; kind < 2; kind++) {
                int k = kind;
                x.set(k, 9, run[0], false);
                c.due(run[0] + " / " + run[1], 1, () -> x.divide(k, 9, run[1], false));
                c.due("is", run[2], () -> x.get(k, 9));
            }
        }
        put(x, 3, -20, 15, 2, 10, 1);
        c.due("GLUE", 1, () -> x.divide(2, 3, -7, false));
        parts("all three", x, 3, 2, -2, 2, -1, 1);
        // The document puts bounds on the factor alone: the quotient by a greater number is 0.
        x.set(0, 0, -2147483647, false);
        c.due("by a greater number", 1, () -> x.divide(0, 0, 2147483648L, false));
        c.due("is", 0, () -> x.get(0, 0));
    }

    private static void refusals() {
        RegisterRows x = new RegisterRows();
        for (int kind : new int[] {-1, 3, 4, 5, Integer.MAX_VALUE, Integer.MIN_VALUE}) {
            for (int n : new int[] {0, 32}) {
                c.refused("add(" + kind + ", " + n + ")", WRONG, () -> x.add(kind, n, 1, false));
                c.refused("multiply(" + kind + ", " + n + ")", WRONG, () -> x.multiply(kind, n, 1, false));
                c.refused("divide(" + kind + ", " + n + ")", WRONG, () -> x.divide(kind, n, 0, false));
            }
        }
        for (int kind = 0; kind < 3; kind++) {
            int k = kind;
            for (int n : new int[] {-1, 32, Integer.MAX_VALUE, Integer.MIN_VALUE}) {
                c.refused("add(" + k + ", " + n + ")", NO_SUCH, () -> x.add(k, n, 0, false));
                c.refused("multiply(" + k + ", " + n + ")", NO_SUCH, () -> x.multiply(k, n, 1L << 40, false));
                c.refused("divide(" + k + ", " + n + ")", NO_SUCH, () -> x.divide(k, n, 0, false));
            }
            c.refused("divide by 0", ArithmeticException.class, () -> x.divide(k, 0, 0, false));
            c.refused("divide by 0 for all", ArithmeticException.class, () -> x.divide(k, 31, 0, true));
        }
        for (long v : new long[] {-1, 32, 4294967296L, Long.MAX_VALUE, Long.MIN_VALUE}) {
            c.refused("GLUE " + v, NO_SUCH, () -> x.add(2, 0, v, false));
        }
        c.due("GLUE 31", 1, () -> x.add(2, 31, 31, false));
    }

    private static void levels() {
        RegisterRows x = new RegisterRows();
        for (int kind = 0; kind < 3; kind++) {
            int k = kind;
            x.glue(6, 6, 1, 6, 1);
            x.set(k, 0, 6, false);
            x.group();
            c.due("add SETS", 1, () -> x.add(k, 0, k == 2 ? 0 : 6, false));
            c.due("LEVEL", 1, () -> x.told(10 + k, 0));
            c.due("KEPT", 1, () -> x.told(1, 0));
            x.group();
            c.due("multiply SETS", 1, () -> x.multiply(k, 0, 2, false));
            c.due("LEVEL", 2, () -> x.told(10 + k, 0));
            c.due("KEPT", 2, () -> x.told(1, 0));
            x.group();
            c.due("divide SETS", 1, () -> x.divide(k, 0, 3, false));
            c.due("get", 8, () -> x.get(k, 0));
            c.due("LEVEL", 3, () -> x.told(10 + k, 0));
            c.due("KEPT", 3, () -> x.told(1, 0));
            c.due("divide FOR ALL", 1, () -> x.divide(k, 0, 2, true));
            c.due("LEVEL", 0, () -> x.told(10 + k, 0));
            c.due("KEPT", 3, () -> x.told(1, 0));
            c.due("end", 0, x::end);
            c.due("OVERFLOW", 0, () -> x.multiply(k, 0, 1L << 40, false));
            c.due("KEPT", 2, () -> x.told(1, 0));
            c.due("LEVEL", 0, () -> x.told(10 + k, 0));
            c.due("end", 0, x::end);
            c.due("end", 0, x::end);
            c.due("get", 4, () -> x.get(k, 0));
        }
    }
}
