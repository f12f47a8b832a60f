import java.math.BigInteger;

/** Promises 17 and 18: UNITS and fractions as scaled points. */
public final class UnitsTest {
    private static final int MOST = 1073741823;
    private static final long[][] UNITS = {{1, 1}, {7227, 100}, {12, 1}, {7227, 254}, {7227, 2540}, {7227, 7200},
        {1238, 1157}, {14856, 1157}};
    private static final Checks c = new Checks();

    public static void main(String[] args) {
        onePoint();
        eachUnit();
        scaledPointsThemselves();
        exactPoints();
        lastPoints();
        fractions();
        fractionsAtTheirBounds();
        fractionsOfFiveDigits();
        c.end();
    }

    private static void scaled(int up, int down, int unit, long want) {
        RegisterRows x = new RegisterRows();
        c.due("scaled(" + up + ", " + down + ", " + unit + ")", want, () -> x.scaled(up, down, unit));
    }

    private static void onePoint() {
        scaled(0, 0, 0, 0);
        scaled(0, 65535, 0, 65535);
        scaled(1, 1, 0, 65537);
        scaled(16383, 65535, 0, MOST);
        scaled(16384, 0, 0, -1);
        scaled(MOST, 0, 0, -1);
        scaled(MOST, 65535, 0, -1);
    }

    private static void eachUnit() {
        scaled(1, 0, 1, 4736286);
        scaled(1, 0, 2, 786432);
        scaled(1, 0, 3, 1864679);
        scaled(1, 0, 4, 186467);
        scaled(1, 0, 5, 65781);
        scaled(1, 0, 6, 70124);
        scaled(1, 0, 7, 841489);
        scaled(0, 65535, 2, 786420);
        scaled(0, 65535, 7, 841476);
        for (int unit = 0; unit < 8; unit++) {
            scaled(0, 0, unit, 0);
            scaled(MOST, 0, unit, -1);
            scaled(MOST, 65535, unit, -1);
        }
    }

    private static void scaledPointsThemselves() {
        for (int down : new int[] {0, 65535, -1, 65536, Integer.MAX_VALUE, Integer.MIN_VALUE}) {
            scaled(0, down, 8, 0);
            scaled(5, down, 8, 5);
            scaled(MOST, down, 8, MOST);
        }
    }

    /** The two cut-off steps together are the one quotient of the whole number of 65536ths, cut off. */
    private static long points(long all, int unit) {
        return BigInteger.valueOf(all).multiply(BigInteger.valueOf(UNITS[unit][0]))
                .divide(BigInteger.valueOf(UNITS[unit][1])).longValueExact();
    }

    private static void exactPoints() {
        int[] ups = {0, 1, 2, 99, 226, 575, 576, 1275, 1365, 5758, 5759, 15310, 15311, 16321, 16322, 16383, 1 << 29};
        int[] downs = {0, 1, 2, 32767, 32768, 48497, 65534, 65535};
        for (int unit = 0; unit < 8; unit++) {
            for (int up : ups) {
                for (int down : downs) {
                    long points = points(up * 65536L + down, unit);
                    scaled(up, down, unit, points > MOST ? -1 : points);
                }
            }
        }
    }

    /** Of each UNIT the last up and down that are told as scaled points, and the next, which are not. */
    private static void lastPoints() {
        for (int unit = 0; unit < 8; unit++) {
            long last = ((MOST + 1L) * UNITS[unit][1] - 1) / UNITS[unit][0];
            long points = points(last, unit);
            c.due("the last is not beyond", 1, () -> points <= MOST ? 1 : 0);
            scaled((int) (last / 65536), (int) (last % 65536), unit, points);
            scaled((int) ((last + 1) / 65536), (int) ((last + 1) % 65536), unit, -1);
        }
    }

    private static void fraction(int digits, int many, long want) {
        RegisterRows x = new RegisterRows();
        c.due("fraction(" + digits + ", " + many + ")", want, () -> x.fraction(digits, many));
    }

    private static void fractions() {
        fraction(5, 1, 32768);
        fraction(50, 3, 3277);
        fraction(1, 5, 1);
        fraction(1, 9, 0);
        fraction(333333333, 9, 21845);
        fraction(14159, 5, 9279);
    }

    /** The first and the last digits of each number of them; the next are refused, as RefusedTest says. */
    private static void fractionsAtTheirBounds() {
        int[] nines = {58982, 64881, 65470, 65529, 65535, 65536, 65536, 65536, 65536};
        int most = 0;
        for (int many = 1; many <= 9; many++) {
            most = most * 10 + 9;
            fraction(most, many, nines[many - 1]);
            fraction(0, many, 0);
            fraction(5 * tenTo(many - 1), many, 32768);
        }
    }

    private static int tenTo(int power) {
        int ten = 1;
        for (int i = 0; i < power; i++) {
            ten *= 10;
        }
        return ten;
    }

    /** Of five digits the cut-off steps together answer the nearest 65536th; none lies in the middle of two. */
    private static void fractionsOfFiveDigits() {
        for (int digits = 0; digits < 100000; digits += 13) {
            fraction(digits, 5, (digits * 131072L + 100000) / 200000);
        }
    }
}
