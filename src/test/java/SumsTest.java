/** Promises 8 to 10: sums, products and quotients of COUNTS, LENGTHS and GLUE. */
public final class SumsTest {
    private static final long MOST_COUNT = 2147483647L;
    private static final long MOST_LENGTH = 1073741823L;
    private static final long[] MOST = {MOST_COUNT, MOST_LENGTH};
    private static final Checks c = new Checks();

    public static void main(String[] args) {
        sums();
        sumsFarBeyond();
        sumsOfGlue();
        sumsOfStretchAndShrink();
        sumsOfGlueAtTheBounds();
        noSumNoOverflow();
        products();
        productsAtTheBounds();
        productsOfGlue();
        factorsAtTheirBounds();
        quotients();
        quotientsOfGlue();
        divisorsBeyondTheCounts();
        levels();
        equalLevels();
        c.end();
    }

    private static void sums() {
        for (int kind = 0; kind < 2; kind++) {
            RegisterRows x = new RegisterRows();
            int k = kind;
            long m = MOST[k];
            x.set(k, 1, 5, false);
            x.set(k, 2, 99, false);
            c.due("add", 1, () -> x.add(k, 1, -7, false));
            c.due("get", -2, () -> x.get(k, 1));
            c.due("the other stays", 99, () -> x.get(k, 2));
            c.due("add up to the most", 1, () -> x.add(k, 1, m + 2, false));
            c.due("get", m, () -> x.get(k, 1));
            c.due("add 1", 0, () -> x.add(k, 1, 1, false));
            c.due("it stays", m, () -> x.get(k, 1));
            c.due("add 0", 1, () -> x.add(k, 1, 0, false));
            c.due("from the most to the least", 1, () -> x.add(k, 1, -2 * m, false));
            c.due("get", -m, () -> x.get(k, 1));
            c.due("less 1", 0, () -> x.add(k, 1, -1, true));
            c.due("it stays", -m, () -> x.get(k, 1));
            c.due("back, by one more", 0, () -> x.add(k, 1, 2 * m + 1, true));
            c.due("back", 1, () -> x.add(k, 1, 2 * m, true));
            c.due("get", m, () -> x.get(k, 1));
            c.due("to the least, by one more", 0, () -> x.add(k, 1, -2 * m - 1, true));
        }
    }

    private static void sumsFarBeyond() {
        long[] far = {1L << 32, -(1L << 32), Long.MAX_VALUE, Long.MIN_VALUE, Long.MAX_VALUE - MOST_COUNT,
            Long.MIN_VALUE + MOST_COUNT, Long.MIN_VALUE + MOST_LENGTH};
        for (int kind = 0; kind < 2; kind++) {
            int k = kind;
            for (long own : new long[] {0, 1, -1, MOST[k], -MOST[k]}) {
                RegisterRows x = new RegisterRows();
                x.set(k, 1, own, false);
                for (long v : far) {
                    c.due(own + " and " + v, 0, () -> x.add(k, 1, v, false));
                    c.due("it stays", own, () -> x.get(k, 1));
                }
            }
        }
    }

    private static void sumsOfGlue() {
        RegisterRows x = new RegisterRows();
        Checks.putGlue(x, 1, 10, 20, 1, 30, 2);
        Checks.putGlue(x, 2, 1, 2, 1, 3, 2);
        Checks.putGlue(x, 3, 5, 7, 2, -8, 3);
        c.due("the same ORDERS", 1, () -> x.add(2, 1, 2, false));
        c.parts("summed", x, 1, 11, 22, 1, 33, 2);
        c.parts("the other stays", x, 2, 1, 2, 1, 3, 2);
        c.due("greater ORDERS", 1, () -> x.add(2, 1, 3, false));
        c.parts("come in place", x, 1, 16, 7, 2, -8, 3);
        c.due("less ORDERS", 1, () -> x.add(2, 1, 2, false));
        c.parts("nothing of them", x, 1, 17, 7, 2, -8, 3);
        c.due("to itself", 1, () -> x.add(2, 1, 1, false));
        c.parts("doubled", x, 1, 34, 14, 2, -16, 3);
        Checks.putGlue(x, 0, 1, 1, 3, 1, 0);
        Checks.putGlue(x, 31, 2, 4, 0, 8, 3);
        c.due("the last to the first", 1, () -> x.add(2, 0, 31, false));
        c.parts("one greater, one less", x, 0, 3, 1, 3, 8, 3);
        c.due("the first to the last", 1, () -> x.add(2, 31, 0, false));
        c.parts("one greater, one the same", x, 31, 5, 1, 3, 16, 3);
    }

    /** Of each row: a size and its ORDER, one added and its ORDER, the sum and its ORDER. */
    private static void sumsOfStretchAndShrink() {
        int[][] rows = {
            {5, 0, 3, 0, 8, 0}, {5, 3, 3, 3, 8, 3}, {5, 2, -5, 2, 0, 2},
            {5, 0, 3, 1, 3, 1}, {5, 2, -3, 3, -3, 3}, {5, 0, 1, 3, 1, 3},
            {5, 0, 0, 1, 5, 0}, {5, 2, 0, 3, 5, 2},
            {5, 1, 3, 0, 5, 1}, {5, 3, -3, 2, 5, 3}, {-1, 1, 3, 0, -1, 1},
            // What is 0 counts as of ORDER 0: greater ORDERS come in its place, ORDER 0 is summed with it.
            {0, 3, 3, 2, 3, 2}, {0, 2, 3, 1, 3, 1}, {0, 1, 3, 1, 3, 1}, {0, 3, 3, 0, 3, 0}, {0, 1, -3, 0, -3, 0},
            {0, 0, 3, 3, 3, 3}, {0, 0, 3, 0, 3, 0},
            // Of greater ORDER, but 0: nothing comes.
            {0, 2, 0, 3, 0, 2}, {0, 2, 0, 1, 0, 2}, {0, 3, 0, 3, 0, 3}, {0, 0, 0, 1, 0, 0},
        };
        for (int[] r : rows) {
            String call = r[0] + " of " + r[1] + " and " + r[2] + " of " + r[3];
            RegisterRows x = new RegisterRows();
            Checks.putGlue(x, 0, 0, r[0], r[1], 7, 1);
            Checks.putGlue(x, 1, 0, r[2], r[3], 7, 1);
            c.due(call + ", stretch", 1, () -> x.add(2, 0, 1, false));
            c.parts(call + ", stretch", x, 0, 0, r[4], r[5], 14, 1);
            Checks.putGlue(x, 0, 0, 7, 1, r[0], r[1]);
            Checks.putGlue(x, 1, 0, 7, 1, r[2], r[3]);
            c.due(call + ", shrink", 1, () -> x.add(2, 0, 1, false));
            c.parts(call + ", shrink", x, 0, 0, 14, 1, r[4], r[5]);
        }
    }

    /** GLUE n, of one size (which = 0 natural, 1 stretch, 2 shrink) and 1 else. */
    private static void putOne(RegisterRows x, int n, int which, long size) {
        Checks.putGlue(x, n, which == 0 ? size : 1, which == 1 ? size : 1, 1, which == 2 ? size : 1, 1);
    }

    private static void dueOne(String call, RegisterRows x, int n, int which, long size, long else1) {
        c.parts(call, x, n, which == 0 ? size : else1, which == 1 ? size : else1, 1, which == 2 ? size : else1, 1);
    }

    private static void sumsOfGlueAtTheBounds() {
        for (int which = 0; which < 3; which++) {
            for (int sign = -1; sign <= 1; sign += 2) {
                long m = sign * MOST_LENGTH;
                RegisterRows x = new RegisterRows();
                putOne(x, 0, which, m - sign * 5);
                putOne(x, 1, which, sign * 5);
                c.due("up to the bound", 1, () -> x.add(2, 0, 1, false));
                dueOne("it is " + m, x, 0, which, m, 2);
                putOne(x, 1, which, sign);
                c.due("one beyond", 0, () -> x.add(2, 0, 1, false));
                dueOne("nothing is done", x, 0, which, m, 2);
                c.due("nor for all", 0, () -> x.add(2, 0, 1, true));
                putOne(x, 1, which, m);
                c.due("twice", 0, () -> x.add(2, 0, 1, false));
                dueOne("nothing is done", x, 0, which, m, 2);
            }
        }
    }

    private static void noSumNoOverflow() {
        RegisterRows x = new RegisterRows();
        Checks.putGlue(x, 0, 0, MOST_LENGTH, 2, -MOST_LENGTH, 1);
        Checks.putGlue(x, 1, 0, MOST_LENGTH, 1, -MOST_LENGTH, 2);
        c.due("less, and greater", 1, () -> x.add(2, 0, 1, false));
        c.parts("no two are summed", x, 0, 0, MOST_LENGTH, 2, -MOST_LENGTH, 2);
        Checks.putGlue(x, 0, 0, MOST_LENGTH, 2, -MOST_LENGTH, 1);
        c.due("the other way round", 1, () -> x.add(2, 1, 0, false));
        c.parts("no two are summed", x, 1, 0, MOST_LENGTH, 2, -MOST_LENGTH, 2);
    }

    private static void products() {
        for (int kind = 0; kind < 2; kind++) {
            RegisterRows x = new RegisterRows();
            int k = kind;
            x.set(k, 1, -6, false);
            x.set(k, 2, 99, false);
            c.due("by 7", 1, () -> x.multiply(k, 1, 7, false));
            c.due("get", -42, () -> x.get(k, 1));
            c.due("by -1", 1, () -> x.multiply(k, 1, -1, false));
            c.due("get", 42, () -> x.get(k, 1));
            c.due("by 0", 1, () -> x.multiply(k, 1, 0, false));
            c.due("get", 0, () -> x.get(k, 1));
            c.due("the other stays", 99, () -> x.get(k, 2));
        }
    }

    private static void product(int kind, long own, long v, int answer) {
        RegisterRows x = new RegisterRows();
        x.set(kind, 0, own, false);
        c.due("KIND " + kind + ", " + own + " by " + v, answer, () -> x.multiply(kind, 0, v, false));
        c.due("get", answer == 1 ? own * v : own, () -> x.get(kind, 0));
    }

    private static void productsAtTheBounds() {
        for (int sign = -1; sign <= 1; sign += 2) {
            product(0, 1, sign * MOST_COUNT, 1);
            product(0, MOST_COUNT, sign, 1);
            product(0, 46340, sign * 46340L, 1);
            product(0, 65536, sign * 32768L, 0);
            product(0, 65536, sign * 65536L, 0);
            product(0, 65537, sign * 65536L, 0);
            product(0, -MOST_COUNT, sign * 2, 0);
            product(0, -MOST_COUNT, sign * MOST_COUNT, 0);
            product(1, 357913941, sign * 3, 1);
            product(1, 1, sign * MOST_LENGTH, 1);
            product(1, MOST_LENGTH, sign, 1);
            product(1, 1, sign * (MOST_LENGTH + 1), 0);
            product(1, 32768, sign * 32767L, 1);
            product(1, 32768, sign * 32768L, 0);
            product(1, 65536, sign * 65536L, 0);
            product(1, 65537, sign * 65536L, 0);
            product(1, -MOST_LENGTH, sign * MOST_COUNT, 0);
        }
    }

    private static void productsOfGlue() {
        RegisterRows x = new RegisterRows();
        Checks.putGlue(x, 3, 2, -3, 1, 4, 3);
        Checks.putGlue(x, 4, 9, 9, 2, 9, 2);
        c.due("GLUE", 1, () -> x.multiply(2, 3, -5, false));
        c.parts("all three, not the ORDERS", x, 3, -10, 15, 1, -20, 3);
        c.parts("the other stays", x, 4, 9, 9, 2, 9, 2);
        c.due("by 0", 1, () -> x.multiply(2, 3, 0, false));
        c.parts("ORDERS of 0 stay", x, 3, 0, 0, 1, 0, 3);
        for (int which = 0; which < 3; which++) {
            RegisterRows y = new RegisterRows();
            putOne(y, 0, which, 357913941);
            c.due("up to the bound", 1, () -> y.multiply(2, 0, 3, false));
            dueOne("it is the most", y, 0, which, MOST_LENGTH, 3);
            c.due("turned", 1, () -> y.multiply(2, 0, -1, false));
            dueOne("it is the least", y, 0, which, -MOST_LENGTH, -3);
            c.due("twice", 0, () -> y.multiply(2, 0, 2, false));
            dueOne("nothing is done", y, 0, which, -MOST_LENGTH, -3);
            for (long size : new long[] {32768, 65536, -32768}) {
                putOne(y, 0, which, size);
                c.due("one beyond, or far", 0, () -> y.multiply(2, 0, size, false));
                dueOne("nothing is done", y, 0, which, size, 1);
            }
        }
    }

    /** OVERFLOW by the factor alone, also where the product would be 0. */
    private static void factorsAtTheirBounds() {
        for (int kind = 0; kind < 3; kind++) {
            int k = kind;
            RegisterRows x = new RegisterRows();
            c.due("0 by the most", 1, () -> x.multiply(k, 0, MOST_COUNT, false));
            c.due("0 by the least", 1, () -> x.multiply(k, 0, -MOST_COUNT, false));
            for (long v : new long[] {MOST_COUNT + 1, -MOST_COUNT - 1, 1L << 32, (1L << 32) + 1, -(1L << 32),
                Long.MAX_VALUE, Long.MIN_VALUE}) {
                c.due("0 by " + v, 0, () -> x.multiply(k, 0, v, false));
                c.due("0 by " + v + " for all", 0, () -> x.multiply(k, 0, v, true));
            }
        }
    }

    private static void quotients() {
        long[][] runs = {{7, 2, 3}, {-7, 2, -3}, {7, -2, -3}, {-7, -2, 3}, {6, 7, 0}, {-6, 7, 0}, {7, 7, 1}, {-7, 7, -1},
            {5, 1, 5}, {5, -1, -5}, {0, -3, 0}, {1000000000, MOST_COUNT, 0}, {1000000000, -MOST_COUNT, 0},
            {MOST_LENGTH, -MOST_LENGTH, -1}, {MOST_LENGTH, -1, -MOST_LENGTH}, {-MOST_LENGTH, 1, -MOST_LENGTH},
            {-MOST_LENGTH, 2, -536870911}};
        for (int kind = 0; kind < 2; kind++) {
            RegisterRows x = new RegisterRows();
            int k = kind;
            for (long[] run : runs) {
                x.set(k, 9, run[0], false);
                x.set(k, 10, 99, false);
                c.due(run[0] + " / " + run[1], 1, () -> x.divide(k, 9, run[1], false));
                c.due("is", run[2], () -> x.get(k, 9));
                c.due("the other stays", 99, () -> x.get(k, 10));
            }
        }
        RegisterRows y = new RegisterRows();
        y.set(0, 0, -MOST_COUNT, false);
        c.due("the least by -1", 1, () -> y.divide(0, 0, -1, false));
        c.due("is the most", MOST_COUNT, () -> y.get(0, 0));
    }

    private static void quotientsOfGlue() {
        RegisterRows x = new RegisterRows();
        Checks.putGlue(x, 3, -20, 15, 2, 10, 1);
        Checks.putGlue(x, 4, 9, 9, 2, 9, 2);
        c.due("GLUE", 1, () -> x.divide(2, 3, -7, false));
        c.parts("all three", x, 3, 2, -2, 2, -1, 1);
        c.parts("the other stays", x, 4, 9, 9, 2, 9, 2);
        c.due("by more", 1, () -> x.divide(2, 3, 3, false));
        c.parts("ORDERS of 0 stay", x, 3, 0, 0, 2, 0, 1);
        Checks.putGlue(x, 3, MOST_LENGTH, -MOST_LENGTH, 3, MOST_LENGTH, 0);
        c.due("by -1", 1, () -> x.divide(2, 3, -1, false));
        c.parts("turned", x, 3, -MOST_LENGTH, MOST_LENGTH, 3, -MOST_LENGTH, 0);
    }

    /** The document puts bounds on a factor alone: the quotient by a greater number is 0; none of them is 0 itself. */
    private static void divisorsBeyondTheCounts() {
        for (int kind = 0; kind < 3; kind++) {
            int k = kind;
            for (long v : new long[] {MOST_COUNT + 1, -MOST_COUNT - 1, 1L << 32, -(1L << 32), (1L << 32) + 1,
                Long.MAX_VALUE, Long.MIN_VALUE}) {
                RegisterRows x = new RegisterRows();
                x.glue(-MOST_LENGTH, 0, 1, 0, 1);
                x.set(k, 0, -MOST_LENGTH, false);
                c.due("divide by " + v, 1, () -> x.divide(k, 0, v, false));
                c.due("is", 0, () -> x.get(k, 0));
            }
        }
    }

    private static void levels() {
        for (int kind = 0; kind < 3; kind++) {
            RegisterRows x = new RegisterRows();
            int k = kind;
            x.glue(6, 6, 1, 6, 1);
            x.set(k, 0, 6, false);
            x.group();
            c.due("add SETS", 1, () -> x.add(k, 0, k == 2 ? 0 : 6, false));
            c.due("LEVEL", 1, () -> x.told(10 + k, 0));
            c.due("KEPT", 1, () -> x.told(1, 0));
            x.group();
            c.due("multiply SETS", 1, () -> x.multiply(k, 0, 2, false));
            c.due("LEVEL", 2, () -> x.told(10 + k, 0));
            c.due("KEPT", 2, () -> x.told(1, 0));
            x.group();
            c.due("divide SETS", 1, () -> x.divide(k, 0, 3, false));
            c.due("get", 8, () -> x.get(k, 0));
            c.due("LEVEL", 3, () -> x.told(10 + k, 0));
            c.due("KEPT", 3, () -> x.told(1, 0));
            c.due("divide FOR ALL", 1, () -> x.divide(k, 0, 2, true));
            c.due("LEVEL", 0, () -> x.told(10 + k, 0));
            c.due("KEPT", 3, () -> x.told(1, 0));
            c.due("end", 0, x::end);
            c.due("OVERFLOW", 0, () -> x.multiply(k, 0, 1L << 40, false));
            c.due("KEPT", 2, () -> x.told(1, 0));
            c.due("LEVEL", 0, () -> x.told(10 + k, 0));
            c.due("multiply FOR ALL", 1, () -> x.multiply(k, 0, 2, true));
            c.due("end", 0, x::end);
            c.due("add FOR ALL", 1, () -> x.add(k, 0, k == 2 ? 0 : 8, true));
            c.due("end", 0, x::end);
            c.due("get", 16, () -> x.get(k, 0));
        }
    }

    /** A sum by which nothing changes SETS too; a second one at the same DEPTH KEEPS no more. */
    private static void equalLevels() {
        for (int kind = 0; kind < 3; kind++) {
            RegisterRows x = new RegisterRows();
            int k = kind;
            x.group();
            c.due("multiply by 1", 1, () -> x.multiply(k, 5, 1, false));
            c.due("LEVEL", 1, () -> x.told(10 + k, 5));
            c.due("KEPT", 1, () -> x.told(1, 0));
            c.due("add 0", 1, () -> x.add(k, 5, 0, false));
            c.due("divide by 1", 1, () -> x.divide(k, 5, 1, false));
            c.due("KEPT", 1, () -> x.told(1, 0));
            c.due("end", 1, x::end);
            c.due("LEVEL", 0, () -> x.told(10 + k, 5));
        }
    }
}
