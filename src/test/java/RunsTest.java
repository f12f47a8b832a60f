/** Runs of 512 calls, the same each time, of which each answer is held against Model's; the last ones only read. */
public final class RunsTest {
    private static final int RUNS = 3000;
    private static final int CALLS = 512;
    private static final int CALLS_AT_THE_END = 112;
    private static final int CALLS_OF_A_READING = 7;
    private static final int[] EDGES = {0, 1, -1, 2, 3, 4, 5, 9, 10, 14, 15, 19, 20, 31, 32, 60, 199, 200, 255, 256, 999,
        1000, 65535, 65536, 1073741823, 1073741824, -1073741823, -1073741824, Integer.MAX_VALUE, Integer.MIN_VALUE,
        -Integer.MAX_VALUE};
    private static final long[] LONG_EDGES = {2147483648L, -2147483648L, 4294967294L, 4294967295L, -4294967294L,
        4294967296L, 1L << 40, Long.MAX_VALUE, Long.MIN_VALUE, Long.MIN_VALUE + 1};

    private long seed;
    private int calls = 0;
    private final Checks checks;

    private RunsTest(int run, Checks checks) {
        this.seed = 88172645463325252L + 7919L * run;
        this.checks = checks;
    }

    public static void main(String[] args) {
        Checks checks = new Checks();
        for (int run = 0; run < RUNS; run++) {
            new RunsTest(run, checks).play(run);
        }
        checks.end();
    }

    private int below(int bound) {
        seed ^= seed << 13;
        seed ^= seed >>> 7;
        seed ^= seed << 17;
        return (int) ((seed >>> 20) % bound);
    }

    private boolean oneIn(int many) {
        return below(many) == 0;
    }

    private int odd(int usual) {
        return oneIn(25) ? EDGES[below(EDGES.length)] : usual;
    }

    private long anyLong() {
        switch (below(6)) {
            case 0:
                return EDGES[below(EDGES.length)];
            case 1:
                return LONG_EDGES[below(LONG_EDGES.length)];
            case 2:
                return below(2147483647) - 1073741823L;
            default:
                return below(2001) - 1000;
        }
    }

    private long anyLength() {
        return oneIn(25) ? anyLong() : oneIn(3) ? 0 : oneIn(4) ? below(2147483647) - 1073741823L : below(400001) - 200000;
    }

    private void play(int run) {
        RegisterRows x = new RegisterRows();
        Model m = new Model();
        int registers = 1 + below(32);
        int style = run % 4;
        while (calls < CALLS - CALLS_AT_THE_END) {
            step("run " + run + ", call " + calls, x, m, registers, style);
        }
        while (calls + CALLS_OF_A_READING <= CALLS) {
            read("run " + run + ", call " + calls, x, m, below(5), below(registers));
        }
        while (calls < CALLS) {
            int n = below(registers);
            same("run " + run + ", call " + calls, () -> x.get(0, n), () -> m.get(0, n));
        }
    }

    private void step(String where, RegisterRows x, Model m, int registers, int style) {
        int kind = odd(below(5));
        int n = odd(below(registers));
        boolean all = oneIn(style == 1 ? 40 : 5);
        // One style mostly opens GROUPS and sets, so that the pile, the GROUPS and the TOKENS run full.
        int which = style == 1 && !oneIn(4) ? new int[] {2, 2, 2, 2, 2, 0, 11}[below(7)] : below(20);
        switch (which) {
            case 0: {
                int t = odd(below(256));
                same(where + " token(" + t + ")", () -> x.token(t), () -> m.token(t));
                break;
            }
            case 1: {
                long a = anyLength();
                long b = anyLength();
                long d = anyLength();
                int by = odd(below(4));
                int by2 = odd(below(4));
                same(where + " glue", () -> Checks.glue(x, a, b, by, d, by2), () -> glue(m, a, b, by, d, by2));
                break;
            }
            case 2:
            case 3:
            case 4: {
                long v = kind == 4 && !oneIn(20) ? below(1001) - 1 : anyLong();
                same(where + " set(" + kind + ", " + n + ", " + v + ", " + all + ")",
                        () -> x.set(kind, n, v, all), () -> m.set(kind, n, v, all));
                break;
            }
            case 5:
            case 6: {
                int k = odd(below(3));
                long v = k == 2 ? odd(below(registers)) : anyLong();
                same(where + " add(" + k + ", " + n + ", " + v + ", " + all + ")",
                        () -> x.add(k, n, v, all), () -> m.add(k, n, v, all));
                break;
            }
            case 7: {
                int k = odd(below(3));
                long v = oneIn(3) ? anyLong() : below(7) - 3;
                same(where + " multiply(" + k + ", " + n + ", " + v + ", " + all + ")",
                        () -> x.multiply(k, n, v, all), () -> m.multiply(k, n, v, all));
                break;
            }
            case 8: {
                int k = odd(below(3));
                long v = oneIn(3) ? anyLong() : below(7) - 3;
                same(where + " divide(" + k + ", " + n + ", " + v + ", " + all + ")",
                        () -> x.divide(k, n, v, all), () -> m.divide(k, n, v, all));
                break;
            }
            case 9:
                same(where + " take(" + n + ")", () -> x.take(n), () -> m.take(n));
                break;
            case 10:
            case 11:
                same(where + " group()", x::group, m::group);
                break;
            case 12:
            case 13: {
                if (style != 1 || oneIn(4)) {
                    same(where + " end()", x::end, m::end);
                }
                break;
            }
            case 14:
            case 15: {
                int t = odd(below(256));
                same(where + " after(" + t + ")", () -> x.after(t), () -> m.after(t));
                break;
            }
            case 16: {
                int up = odd(oneIn(2) ? below(20000) : below(1073741824));
                int down = odd(below(65536));
                int unit = odd(below(9));
                same(where + " scaled(" + up + ", " + down + ", " + unit + ")",
                        () -> x.scaled(up, down, unit), () -> m.scaled(up, down, unit));
                break;
            }
            case 17: {
                int many = odd(1 + below(9));
                int digits = odd(below(oneIn(2) ? 1000 : 1000000000));
                same(where + " fraction(" + digits + ", " + many + ")",
                        () -> x.fraction(digits, many), () -> m.fraction(digits, many));
                break;
            }
            case 18: {
                int i = odd(below(30));
                same(where + " shown(" + kind + ", " + n + ", " + i + ")",
                        () -> x.shown(kind, n, i), () -> m.shown(kind, n, i));
                break;
            }
            default:
                read(where, x, m, kind, n);
        }
    }

    private void read(String where, RegisterRows x, Model m, int kind, int n) {
        int i = odd(below(22));
        int what = odd(below(16));
        same(where + " get(" + kind + ", " + n + ")", () -> x.get(kind, n), () -> m.get(kind, n));
        same(where + " part(" + n + ", " + what + ")", () -> x.part(n, what), () -> m.part(n, what));
        same(where + " at(" + n + ", " + i + ")", () -> x.at(n, i), () -> m.at(n, i));
        same(where + " told(" + what + ", " + n + ")", () -> x.told(what, n), () -> m.told(what, n));
        same(where + " restored(" + i + ", " + what + ")", () -> x.restored(i, what), () -> m.restored(i, what));
        same(where + " behind(" + i + ")", () -> x.behind(i), () -> m.behind(i));
        same(where + " shown(" + kind + ", " + n + ", " + i + ")", () -> x.shown(kind, n, i), () -> m.shown(kind, n, i));
    }

    private static long glue(Model m, long a, long b, int by, long d, int by2) {
        m.glue(a, b, by, d, by2);
        return 0;
    }

    /** Where the document's exception is due, the class must throw the very same. */
    private void same(String call, Checks.Call of, Checks.Call due) {
        calls++;
        long want;
        try {
            want = due.answer();
        } catch (RuntimeException e) {
            checks.refused(call, e.getClass(), of);
            return;
        }
        checks.due(call, want, of);
    }
}
