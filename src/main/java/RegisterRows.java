/**
 * Registers of a setter: numbers, lengths, glue, rows of tokens and boxes, set within groups and
 * restored behind them in order, or set for all groups.
 *
 * <p>Whatever its KIND, a value lies in a row of cells, so that one way of copying serves for
 * setting, keeping and giving back: of GLUE natural LENGTH, stretch, its ORDER, shrink, its ORDER;
 * of a ROW how many TOKENS and then these; of any other KIND one cell.
 */
public final class RegisterRows {
    public static final int NONE = -1;

    private static final int COUNTS = 0;
    private static final int LENGTHS = 1;
    private static final int GLUE = 2;
    private static final int ROWS = 3;
    private static final int BOXES = 4;
    private static final int KINDS = 5;

    private static final int REGISTERS = 32;
    private static final int VOID = -1;
    private static final int POINT = 65536;

    private static final long MOST_COUNT = 2147483647L;
    private static final long MOST_LENGTH = 1073741823L;
    private static final int MOST_BOX = 999;
    private static final int MOST_TOKEN = 255;
    private static final int MOST_ORDER = 3;
    private static final int MOST_TOKENS = 20;
    private static final int MOST_GROUPS = 20;
    private static final int MOST_KEPT = 200;
    private static final int MOST_AFTER = 60;
    private static final int MOST_DIGITS = 9;
    // GLUE is the longest that is SHOWN: three LENGTHS of 12 signs and 25 signs about them.
    private static final int MOST_SIGNS = 61;

    private static final int STRETCH = 1;
    private static final int SHRINK = 3;

    private static final int[] WIDTHS = {1, 1, 5, 21, 1};
    private static final int[] HOMES = {0, 32, 64, 224, 896};
    private static final int CELLS = 928;
    private static final int GLUE_WIDTH = 5;
    private static final int WIDEST = 21;

    private static final int SCALED_UNIT = 8;
    private static final long[] NUMERATORS = {1, 7227, 12, 7227, 7227, 7227, 1238, 14856};
    private static final long[] DENOMINATORS = {1, 100, 1, 254, 2540, 7200, 1157, 1157};

    private static final int TOLD_DEPTH = 0;
    private static final int TOLD_KEPT = 1;
    private static final int TOLD_LEVELS = 10;

    private final Bank bank = new Bank();
    private final Pile pile = new Pile();
    private final Groups groups = new Groups();
    private final Ended ended = new Ended();
    private final Signs signs = new Signs();
    private final long[] glueThatWaits = new long[GLUE_WIDTH];
    private final long[] rowThatWaits = new long[WIDEST];
    // A value is made here first, so that OVERFLOW and a full pile leave its REGISTER as it was.
    private final long[] made = new long[WIDEST];

    public RegisterRows() {
    }

    public int token(int t) throws IllegalArgumentException {
        checkToken(t);
        int many = (int) rowThatWaits[0];
        if (many < 0 || many >= MOST_TOKENS) {
            return NONE;
        }
        rowThatWaits[many + 1] = t;
        rowThatWaits[0] = many + 1;
        return many + 1;
    }

    public void glue(long natural, long stretch, int by, long shrink, int by2) throws IllegalArgumentException {
        if (!isLength(natural) || !isLength(stretch) || !isLength(shrink)) {
            throw new IllegalArgumentException("a LENGTH beyond the bounds");
        }
        if (!within(by, 0, MOST_ORDER) || !within(by2, 0, MOST_ORDER)) {
            throw new IllegalArgumentException("no such ORDER");
        }
        glueThatWaits[0] = natural;
        glueThatWaits[STRETCH] = stretch;
        glueThatWaits[STRETCH + 1] = by;
        glueThatWaits[SHRINK] = shrink;
        glueThatWaits[SHRINK + 1] = by2;
    }

    public int set(int kind, int n, long v, boolean all)
            throws IllegalArgumentException, IndexOutOfBoundsException, UnsupportedOperationException {
        checkKind(kind, BOXES);
        if (kind == BOXES && !within(v, VOID, MOST_BOX)) {
            throw new IllegalArgumentException("no BOX");
        }
        checkRegister(n);
        makeGiven(kind, v);
        int answer = putMade(kind, n, all);
        if (kind == ROWS) {
            rowThatWaits[0] = 0;
        }
        return answer;
    }

    public long get(int kind, int n) throws IllegalArgumentException, IndexOutOfBoundsException {
        checkKind(kind, BOXES);
        checkRegister(n);
        return bank.cells[Bank.home(kind, n)];
    }

    public long part(int n, int what) throws IndexOutOfBoundsException {
        checkRegister(n);
        if (!within(what, 0, GLUE_WIDTH - 1)) {
            throw new IndexOutOfBoundsException("no such part of GLUE");
        }
        return bank.cells[Bank.home(GLUE, n) + what];
    }

    public int at(int n, int i) throws IndexOutOfBoundsException {
        checkRegister(n);
        int home = Bank.home(ROWS, n);
        if (i < 0 || i >= MOST_TOKENS || i >= bank.cells[home]) {
            throw new IndexOutOfBoundsException("no such TOKEN");
        }
        return (int) bank.cells[home + 1 + i];
    }

    public int add(int kind, int n, long v, boolean all)
            throws IllegalArgumentException, IndexOutOfBoundsException, UnsupportedOperationException {
        checkKind(kind, GLUE);
        checkRegister(n);
        if (kind == GLUE) {
            checkRegister(v);
            bank.copyTo(made, GLUE, n);
            addGlue(Bank.home(GLUE, (int) v));
            return putMade(kind, n, all);
        }
        // No sum with more than this is within the bounds, and a long could not hold each.
        if (!within(v, -2 * MOST_COUNT, 2 * MOST_COUNT)) {
            return 0;
        }
        bank.copyTo(made, kind, n);
        made[0] += v;
        return putMade(kind, n, all);
    }

    public int multiply(int kind, int n, long v, boolean all)
            throws IllegalArgumentException, IndexOutOfBoundsException, UnsupportedOperationException {
        checkKind(kind, GLUE);
        checkRegister(n);
        if (!isCount(v)) {
            return 0;
        }
        bank.copyTo(made, kind, n);
        made[0] *= v;
        if (kind == GLUE) {
            made[STRETCH] *= v;
            made[SHRINK] *= v;
        }
        return putMade(kind, n, all);
    }

    public int divide(int kind, int n, long v, boolean all)
            throws IllegalArgumentException, IndexOutOfBoundsException, ArithmeticException,
            UnsupportedOperationException {
        checkKind(kind, GLUE);
        checkRegister(n);
        if (v == 0) {
            throw new ArithmeticException("divided by 0");
        }
        bank.copyTo(made, kind, n);
        made[0] /= v;
        if (kind == GLUE) {
            made[STRETCH] /= v;
            made[SHRINK] /= v;
        }
        return putMade(kind, n, all);
    }

    public int take(int n) throws IndexOutOfBoundsException {
        checkRegister(n);
        int home = Bank.home(BOXES, n);
        int box = (int) bank.cells[home];
        bank.cells[home] = VOID;
        return box == VOID ? NONE : box;
    }

    public int group() throws UnsupportedOperationException {
        if (groups.depth < 0 || groups.depth >= MOST_GROUPS) {
            throw new UnsupportedOperationException("no more GROUPS");
        }
        groups.open(pile.many);
        return groups.depth;
    }

    public int after(int t) throws IllegalArgumentException, IllegalStateException, UnsupportedOperationException {
        checkToken(t);
        if (groups.depth <= 0) {
            throw new IllegalStateException("no GROUP");
        }
        if (groups.many < 0 || groups.many >= MOST_AFTER) {
            throw new UnsupportedOperationException("no more TOKENS behind GROUPS");
        }
        groups.append(t);
        return groups.many - groups.firstToken();
    }

    public int end() throws IllegalStateException {
        if (groups.depth <= 0) {
            throw new IllegalStateException("no GROUP");
        }
        ended.clear();
        giveBackKept(groups.firstKept());
        ended.copyTokens(groups);
        groups.close();
        return ended.back;
    }

    public int restored(int i, int what) throws IndexOutOfBoundsException {
        if (i < 0 || i >= ended.many || i >= MOST_KEPT || !within(what, 0, 2)) {
            throw new IndexOutOfBoundsException("none such went from the pile");
        }
        return what == 0 ? ended.kinds[i] : what == 1 ? ended.registers[i] : ended.again[i];
    }

    public int behind(int i) {
        if (i < 0 || i >= ended.manyTokens || i >= MOST_AFTER) {
            return NONE;
        }
        return ended.tokens[i];
    }

    public long scaled(int up, int down, int unit) throws IllegalArgumentException {
        if (!within(up, 0, MOST_LENGTH) || !within(unit, 0, SCALED_UNIT)) {
            throw new IllegalArgumentException("no such number of points, or no such UNIT");
        }
        if (unit == SCALED_UNIT) {
            return up;
        }
        if (!within(down, 0, POINT - 1)) {
            throw new IllegalArgumentException("no such number of 65536ths");
        }
        long points = inPoints(up, down, NUMERATORS[unit], DENOMINATORS[unit]);
        return points > MOST_LENGTH ? NONE : points;
    }

    public int fraction(int digits, int many) throws IllegalArgumentException {
        if (!within(many, 1, MOST_DIGITS) || digits < 0) {
            throw new IllegalArgumentException("no such digits");
        }
        int left = digits;
        long a = 0;
        for (int k = 0; k < many; k++) {
            a = (a + 2L * POINT * (left % 10)) / 10;
            left = left / 10;
        }
        if (left != 0) {
            throw new IllegalArgumentException("more digits than told");
        }
        return (int) ((a + 1) / 2);
    }

    public int shown(int kind, int n, int i) throws IllegalArgumentException, IndexOutOfBoundsException {
        checkKind(kind, BOXES);
        checkRegister(n);
        signs.clear();
        writeRegister(kind, Bank.home(kind, n));
        return signs.signAt(i);
    }

    public int told(int what, int n) throws IllegalArgumentException, IndexOutOfBoundsException {
        if (what == TOLD_DEPTH) {
            return groups.depth;
        }
        if (what == TOLD_KEPT) {
            return pile.many;
        }
        if (!within(what, TOLD_LEVELS, TOLD_LEVELS + KINDS - 1)) {
            throw new IllegalArgumentException("nothing such is told");
        }
        checkRegister(n);
        return bank.levels[Bank.place(what - TOLD_LEVELS, n)];
    }

    private static boolean within(long v, long least, long most) {
        return v >= least && v <= most;
    }

    private static boolean isCount(long v) {
        return within(v, -MOST_COUNT, MOST_COUNT);
    }

    private static boolean isLength(long v) {
        return within(v, -MOST_LENGTH, MOST_LENGTH);
    }

    private static void checkKind(int kind, int last) {
        if (kind < 0 || kind > last) {
            throw new IllegalArgumentException("no such KIND");
        }
    }

    private static void checkRegister(long n) {
        if (!within(n, 0, REGISTERS - 1)) {
            throw new IndexOutOfBoundsException("no such REGISTER");
        }
    }

    private static void checkToken(int t) {
        if (!within(t, 0, MOST_TOKEN)) {
            throw new IllegalArgumentException("no TOKEN");
        }
    }

    private void makeGiven(int kind, long v) {
        if (kind == GLUE) {
            System.arraycopy(glueThatWaits, 0, made, 0, GLUE_WIDTH);
        } else if (kind == ROWS) {
            System.arraycopy(rowThatWaits, 0, made, 0, WIDEST);
        } else {
            made[0] = v;
        }
    }

    private boolean madeFits(int kind) {
        if (kind == COUNTS) {
            return isCount(made[0]);
        }
        if (kind == LENGTHS) {
            return isLength(made[0]);
        }
        return kind != GLUE || isLength(made[0]) && isLength(made[STRETCH]) && isLength(made[SHRINK]);
    }

    /** SETS a REGISTER to what is made: 1; 0 for OVERFLOW, ahead of a full pile, as nothing would be KEPT. */
    private int putMade(int kind, int n, boolean all) {
        if (!madeFits(kind)) {
            return 0;
        }
        int place = Bank.place(kind, n);
        if (!all && bank.levels[place] < groups.depth) {
            if (pile.many < 0 || pile.many >= MOST_KEPT) {
                throw new UnsupportedOperationException("no more are KEPT");
            }
            pile.keep(bank, kind, n);
        }
        bank.copyFrom(made, 0, kind, n);
        bank.levels[place] = all ? 0 : groups.depth;
        return 1;
    }

    private void addGlue(int home) {
        made[0] += bank.cells[home];
        addFlexible(STRETCH, bank.cells[home + STRETCH], bank.cells[home + STRETCH + 1]);
        addFlexible(SHRINK, bank.cells[home + SHRINK], bank.cells[home + SHRINK + 1]);
    }

    /** Adds a stretch or shrink to the made one; where nothing is added, the made one's ORDER stays as told. */
    private void addFlexible(int what, long size, long order) {
        long own = made[what] == 0 ? 0 : made[what + 1];
        if (order == own) {
            made[what] += size;
            made[what + 1] = own;
        } else if (order > own && size != 0) {
            made[what] = size;
            made[what + 1] = order;
        }
    }

    private void giveBackKept(int first) {
        for (int k = pile.many - 1; k >= first && k >= 0 && k < MOST_KEPT; k--) {
            int kind = pile.kinds[k];
            int n = pile.registers[k];
            if (!within(kind, COUNTS, BOXES) || !within(n, 0, REGISTERS - 1)) {
                continue;
            }
            int place = Bank.place(kind, n);
            boolean again = bank.levels[place] != 0;
            if (again) {
                bank.copyFrom(pile.cells, k * WIDEST, kind, n);
                bank.levels[place] = pile.levels[k];
            }
            ended.append(kind, n, again);
        }
        pile.many = first;
    }

    private static long inPoints(long up, long down, long num, long den) {
        if (den <= 0) {
            return 0;
        }
        long whole = up * num / den;
        long left = up * num % den;
        return POINT * whole + (num * down + POINT * left) / den;
    }

    private void writeRegister(int kind, int home) {
        if (kind == COUNTS) {
            signs.writeNumber(bank.cells[home]);
        } else if (kind == LENGTHS) {
            signs.writeLength(bank.cells[home]);
        } else if (kind == GLUE) {
            writeGlue(home);
        } else if (kind == ROWS) {
            writeRow(home);
        } else if (bank.cells[home] == VOID) {
            signs.writeText("void");
        } else {
            signs.writeNumber(bank.cells[home]);
        }
    }

    private void writeGlue(int home) {
        signs.writeLength(bank.cells[home]);
        signs.writeText("pt");
        writeFlexible(" plus ", home + STRETCH);
        writeFlexible(" minus ", home + SHRINK);
    }

    private void writeFlexible(String before, int cell) {
        if (bank.cells[cell] != 0) {
            signs.writeText(before);
            signs.writeLength(bank.cells[cell]);
            signs.writeText(orderName(bank.cells[cell + 1]));
        }
    }

    private static String orderName(long order) {
        if (order == 0) {
            return "pt";
        }
        return order == 1 ? "fil" : order == 2 ? "fill" : "filll";
    }

    private void writeRow(int home) {
        for (int i = 0; i < MOST_TOKENS && i < bank.cells[home]; i++) {
            signs.write((int) bank.cells[home + 1 + i]);
        }
    }

    /** What the REGISTERS hold, and their LEVELS. */
    private static final class Bank {
        final long[] cells = new long[CELLS];
        final int[] levels = new int[KINDS * REGISTERS];

        Bank() {
            for (int n = 0; n < REGISTERS; n++) {
                cells[home(BOXES, n)] = VOID;
            }
        }

        static int home(int kind, int n) {
            return HOMES[kind] + n * WIDTHS[kind];
        }

        static int place(int kind, int n) {
            return kind * REGISTERS + n;
        }

        void copyTo(long[] row, int kind, int n) {
            System.arraycopy(cells, home(kind, n), row, 0, WIDTHS[kind]);
        }

        void copyFrom(long[] row, int first, int kind, int n) {
            System.arraycopy(row, first, cells, home(kind, n), WIDTHS[kind]);
        }
    }

    /** What is KEPT, the latest last; each has room for the widest value. */
    private static final class Pile {
        final int[] kinds = new int[MOST_KEPT];
        final int[] registers = new int[MOST_KEPT];
        final int[] levels = new int[MOST_KEPT];
        final long[] cells = new long[MOST_KEPT * WIDEST];
        int many;

        void keep(Bank bank, int kind, int n) {
            if (many < 0 || many >= MOST_KEPT) {
                return;
            }
            kinds[many] = kind;
            registers[many] = n;
            levels[many] = bank.levels[Bank.place(kind, n)];
            System.arraycopy(bank.cells, Bank.home(kind, n), cells, many * WIDEST, WIDTHS[kind]);
            many++;
        }
    }

    /** The open GROUPS: from where on the pile is theirs, and the TOKENS told behind them. */
    private static final class Groups {
        final int[] firstsKept = new int[MOST_GROUPS];
        final int[] firstTokens = new int[MOST_GROUPS];
        final int[] tokens = new int[MOST_AFTER];
        int depth;
        int many;

        void open(int kept) {
            if (depth >= 0 && depth < MOST_GROUPS) {
                firstsKept[depth] = kept;
                firstTokens[depth] = many;
                depth++;
            }
        }

        void append(int t) {
            if (many >= 0 && many < MOST_AFTER) {
                tokens[many] = t;
                many++;
            }
        }

        int firstKept() {
            return depth > 0 && depth <= MOST_GROUPS ? firstsKept[depth - 1] : 0;
        }

        int firstToken() {
            return depth > 0 && depth <= MOST_GROUPS ? firstTokens[depth - 1] : 0;
        }

        void close() {
            if (depth > 0) {
                many = firstToken();
                depth--;
            }
        }
    }

    /** What the latest GROUP that ended has left: what went from the pile, and the TOKENS behind it. */
    private static final class Ended {
        final int[] kinds = new int[MOST_KEPT];
        final int[] registers = new int[MOST_KEPT];
        final int[] again = new int[MOST_KEPT];
        final int[] tokens = new int[MOST_AFTER];
        int many;
        int back;
        int manyTokens;

        void clear() {
            many = 0;
            back = 0;
            manyTokens = 0;
        }

        void append(int kind, int n, boolean isAgain) {
            if (many >= 0 && many < MOST_KEPT) {
                kinds[many] = kind;
                registers[many] = n;
                again[many] = isAgain ? 1 : 0;
                back += again[many];
                many++;
            }
        }

        void appendToken(int t) {
            if (manyTokens >= 0 && manyTokens < MOST_AFTER) {
                tokens[manyTokens] = t;
                manyTokens++;
            }
        }

        void copyTokens(Groups groups) {
            for (int k = groups.firstToken(); k >= 0 && k < groups.many && k < MOST_AFTER; k++) {
                appendToken(groups.tokens[k]);
            }
        }
    }

    /** The signs by which a REGISTER is SHOWN. */
    private static final class Signs {
        final int[] signs = new int[MOST_SIGNS];
        int many;

        void clear() {
            many = 0;
        }

        int signAt(int i) {
            return i < 0 || i >= many || i >= MOST_SIGNS ? NONE : signs[i];
        }

        void write(int sign) {
            if (many >= 0 && many < MOST_SIGNS) {
                signs[many] = sign;
                many++;
            }
        }

        void writeText(String text) {
            for (int k = 0; k < text.length(); k++) {
                write(text.charAt(k));
            }
        }

        void writeNumber(long v) {
            if (v < 0) {
                write('-');
            }
            writeDigits(v < 0 ? -v : v);
        }

        void writeDigits(long whole) {
            long power = 1;
            for (int k = 0; k < MOST_DIGITS && whole / 10 >= power; k++) {
                power *= 10;
            }
            for (int k = 0; k <= MOST_DIGITS && power > 0; k++) {
                write('0' + (int) (whole / power % 10));
                power /= 10;
            }
        }

        void writeLength(long v) {
            if (v < 0) {
                write('-');
            }
            long size = v < 0 ? -v : v;
            writeDigits(size / POINT);
            write('.');
            writeFraction(size % POINT);
        }

        /** As few digits as tell these 65536ths from any others: with the fifth, d is above all that s can be. */
        void writeFraction(long part) {
            long s = 10 * part + 5;
            long d = 10;
            for (int k = 0; k < MOST_DIGITS && (k == 0 || s > d); k++) {
                if (d > POINT) {
                    s -= 17232;
                }
                write('0' + (int) (s / POINT));
                s = 10 * (s % POINT);
                d *= 10;
            }
        }
    }
}
