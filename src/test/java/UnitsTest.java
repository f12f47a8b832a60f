import java.math.BigInteger;

/** Promises 17 and 18: UNITS and fractions as scaled points. */
public final class UnitsTest {
    private static final Class<IllegalArgumentException> WRONG = IllegalArgumentException.class;
    private static final long[][] UNITS = {{1, 1}, {7227, 100}, {12, 1}, {7227, 254}, {7227, 2540}, {7227, 7200},
        {1238, 1157}, {14856, 1157}};
    private static final Checks c = new Checks();
    private static final RegisterRows x = new RegisterRows();

    public static void main(String[] args) {
        knownPoints();
        exactPoints();
        scaledIsRefused();
        fractions();
        fractionIsRefused();
        c.end();
    }

    private static void scaled(int up, int down, int unit, long want) {
        c.due("scaled(" + up + ", " + down + ", " + unit + ")", want, () -> x.scaled(up, down, unit));
    }

    private static void knownPoints() {
        scaled(0, 0, 0, 0);
        scaled(0, 65535, 0, 65535);
        scaled(1, 1, 0, 65537);
        scaled(16383, 65535, 0, 1073741823);
        scaled(16384, 0, 0, -1);
        scaled(1, 0, 1, 4736286);
        scaled(1, 0, 2, 786432);
        scaled(1, 0, 3, 1864679);
        scaled(1, 0, 4, 186467);
        scaled(1, 0, 5, 65781);
        scaled(1, 0, 6, 70124);
        scaled(1, 0, 7, 841489);
        scaled(0, 65535, 2, 786420);
        scaled(0, 65535, 7, 841476);
        scaled(5, 65535, 8, 5);
        scaled(1073741823, 0, 8, 1073741823);
        scaled(0, 0, 8, 0);
        scaled(5, -1, 8, 5);
        scaled(5, 65536, 8, 5);
        scaled(1073741823, 65535, 7, -1);
        scaled(1073741823, 65535, 0, -1);
    }

    /** The two cut-off steps together are the one quotient of the whole number of 65536ths, cut off. */
    private static void exactPoints() {
        int[] ups = {0, 1, 2, 99, 226, 575, 576, 1275, 1365, 5758, 5759, 15310, 15311, 16321, 16322, 16383, 1 << 29};
        int[] downs = {0, 1, 2, 32767, 32768, 48497, 65534, 65535};
        for (int unit = 0; unit < 8; unit++) {
            for (int up : ups) {
                for (int down : downs) {
                    long points = BigInteger.valueOf(up).shiftLeft(16).add(BigInteger.valueOf(down))
                            .multiply(BigInteger.valueOf(UNITS[unit][0])).divide(BigInteger.valueOf(UNITS[unit][1]))
                            .longValueExact();
                    scaled(up, down, unit, points > 1073741823 ? -1 : points);
                }
            }
        }
    }

    private static void scaledIsRefused() {
        for (int unit = 0; unit <= 8; unit++) {
            int u = unit;
            for (int up : new int[] {-1, 1073741824, Integer.MAX_VALUE, Integer.MIN_VALUE}) {
                c.refused("scaled(" + up + ", 0, " + u + ")", WRONG, () -> x.scaled(up, 0, u));
            }
            for (int down : new int[] {-1, 65536, Integer.MAX_VALUE, Integer.MIN_VALUE}) {
                if (u < 8) {
                    c.refused("scaled(0, " + down + ", " + u + ")", WRONG, () -> x.scaled(0, down, u));
                }
            }
        }
        for (int unit : new int[] {-1, 9, Integer.MAX_VALUE, Integer.MIN_VALUE}) {
            c.refused("scaled(0, 0, " + unit + ")", WRONG, () -> x.scaled(0, 0, unit));
        }
    }

    private static void fraction(int digits, int many, long want) {
        c.due("fraction(" + digits + ", " + many + ")", want, () -> x.fraction(digits, many));
    }

    private static void fractions() {
        fraction(5, 1, 32768);
        fraction(9, 1, 58982);
        fraction(0, 1, 0);
        fraction(0, 9, 0);
        fraction(50, 3, 3277);
        fraction(99999, 5, 65535);
        fraction(999999, 6, 65536);
        fraction(999999999, 9, 65536);
        fraction(1, 5, 1);
        fraction(1, 9, 0);
        fraction(333333333, 9, 21845);
        fraction(14159, 5, 9279);
        // Of each LENGTH's fraction the digits that it is SHOWN by are turned back into it.
        for (int part = 0; part < 65536; part += 7) {
            x.set(1, 0, part, true);
            String digits = Checks.shown(x, 1, 0).substring(2);
            fraction(Integer.parseInt(digits), digits.length(), part);
        }
    }

    private static void fractionIsRefused() {
        for (int many : new int[] {0, -1, 10, Integer.MAX_VALUE, Integer.MIN_VALUE}) {
            c.refused("fraction(0, " + many + ")", WRONG, () -> x.fraction(0, many));
        }
        int most = 9;
        for (int many = 1; many <= 9; many++) {
            int m = many;
            int beyond = most + 1;
            int within = most;
            c.refused("fraction(" + beyond + ", " + m + ")", WRONG, () -> x.fraction(beyond, m));
            c.due("fraction(" + within + ", " + m + ") answers", 1, () -> x.fraction(within, m) > 0 ? 1 : 0);
            c.refused("fraction(-1, " + m + ")", WRONG, () -> x.fraction(-1, m));
            c.refused("fraction(least, " + m + ")", WRONG, () -> x.fraction(Integer.MIN_VALUE, m));
            c.refused("fraction(most, " + m + ")", WRONG, () -> x.fraction(Integer.MAX_VALUE, m));
            most = m < 9 ? most * 10 + 9 : most;
        }
    }
}
