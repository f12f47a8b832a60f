import java.math.BigInteger;
import java.util.ArrayDeque;
import java.util.ArrayList;
import java.util.Deque;
import java.util.HashMap;
import java.util.List;
import java.util.Map;

/**
 * The document told a second time, in another way than the class's: values are lists, a GROUP is an
 * object with its own pile, sums are of BigIntegers, what is SHOWN is a String.
 */
final class Model {
    private static final class Kept {
        final int kind;
        final int n;
        final List<Long> value;
        final int level;

        Kept(int kind, int n, List<Long> value, int level) {
            this.kind = kind;
            this.n = n;
            this.value = value;
            this.level = level;
        }
    }

    private static final class Group {
        final Deque<Kept> pile = new ArrayDeque<>();
        final List<Integer> tokens = new ArrayList<>();
    }

    private static final String[] ORDERS = {"pt", "fil", "fill", "filll"};
    private static final int[] NUM = {1, 7227, 12, 7227, 7227, 7227, 1238, 14856};
    private static final int[] DEN = {1, 100, 1, 254, 2540, 7200, 1157, 1157};
    private static final List<List<Long>> FIRST = List.of(
            List.of(0L), List.of(0L), List.of(0L, 0L, 0L, 0L, 0L), List.of(), List.of(-1L));

    private final Map<Integer, List<Long>> values = new HashMap<>();
    private final Map<Integer, Integer> levels = new HashMap<>();
    private final List<Group> groups = new ArrayList<>();
    private List<Long> row = new ArrayList<>();
    private List<Long> glue = FIRST.get(2);
    private List<int[]> went = new ArrayList<>();
    private List<Integer> behind = new ArrayList<>();

    int token(int t) {
        wrongUnless(t >= 0 && t <= 255);
        if (row.size() == 20) {
            return -1;
        }
        row.add((long) t);
        return row.size();
    }

    void glue(long natural, long stretch, int by, long shrink, int by2) {
        for (long v : new long[] {natural, stretch, shrink}) {
            wrongUnless(fits(BigInteger.valueOf(v), 1));
        }
        wrongUnless(by >= 0 && by <= 3 && by2 >= 0 && by2 <= 3);
        glue = List.of(natural, stretch, (long) by, shrink, (long) by2);
    }

    int set(int kind, int n, long v, boolean all) {
        wrongUnless(kind >= 0 && kind <= 4 && (kind != 4 || v >= -1 && v <= 999));
        register(n);
        int answer = kind < 2 ? put(kind, n, all, BigInteger.valueOf(v))
                : putValue(kind, n, all, kind == 2 ? glue : kind == 3 ? row : List.of(v));
        if (kind == 3) {
            row = new ArrayList<>();
        }
        return answer;
    }

    long get(int kind, int n) {
        wrongUnless(kind >= 0 && kind <= 4);
        register(n);
        return kind == 3 ? value(3, n).size() : value(kind, n).get(0);
    }

    long part(int n, int what) {
        register(n);
        noSuchUnless(what >= 0 && what < 5);
        return value(2, n).get(what);
    }

    int at(int n, int i) {
        register(n);
        noSuchUnless(i >= 0 && i < value(3, n).size());
        return value(3, n).get(i).intValue();
    }

    int add(int kind, int n, long v, boolean all) {
        wrongUnless(kind >= 0 && kind <= 2);
        register(n);
        if (kind < 2) {
            return put(kind, n, all, big(value(kind, n).get(0)).add(big(v)));
        }
        register(v);
        List<Long> a = value(2, n);
        List<Long> b = value(2, (int) v);
        long[] s = flexible(a.get(1), a.get(2), b.get(1), b.get(2));
        long[] t = flexible(a.get(3), a.get(4), b.get(3), b.get(4));
        return put(2, n, all, big(a.get(0) + b.get(0)), big(s[0]), big(s[1]), big(t[0]), big(t[1]));
    }

    private static long[] flexible(long size, long order, long more, long by) {
        long counted = size == 0 ? 0 : order;
        if (by == counted) {
            return new long[] {size + more, by};
        }
        return by > counted && more != 0 ? new long[] {more, by} : new long[] {size, order};
    }

    int multiply(int kind, int n, long v, boolean all) {
        wrongUnless(kind >= 0 && kind <= 2);
        register(n);
        return fits(big(v), 0) ? scale(kind, n, v, all, true) : 0;
    }

    int divide(int kind, int n, long v, boolean all) {
        wrongUnless(kind >= 0 && kind <= 2);
        register(n);
        if (v == 0) {
            throw new ArithmeticException();
        }
        return scale(kind, n, v, all, false);
    }

    private int scale(int kind, int n, long v, boolean all, boolean times) {
        List<Long> old = value(kind, n);
        BigInteger[] made = new BigInteger[old.size()];
        for (int i = 0; i < made.length; i++) {
            BigInteger a = big(old.get(i));
            made[i] = i == 2 || i == 4 ? a : times ? a.multiply(big(v)) : a.divide(big(v));
        }
        return put(kind, n, all, made);
    }

    int take(int n) {
        register(n);
        int box = value(4, n).get(0).intValue();
        values.put(128 + n, List.of(-1L));
        return box;
    }

    int group() {
        if (groups.size() == 20) {
            throw new UnsupportedOperationException();
        }
        groups.add(new Group());
        return groups.size();
    }

    int after(int t) {
        wrongUnless(t >= 0 && t <= 255);
        stateUnless(!groups.isEmpty());
        int all = 0;
        for (Group g : groups) {
            all += g.tokens.size();
        }
        if (all == 60) {
            throw new UnsupportedOperationException();
        }
        List<Integer> own = groups.get(groups.size() - 1).tokens;
        own.add(t);
        return own.size();
    }

    int end() {
        stateUnless(!groups.isEmpty());
        Group g = groups.remove(groups.size() - 1);
        behind = g.tokens;
        went = new ArrayList<>();
        int back = 0;
        while (!g.pile.isEmpty()) {
            Kept kept = g.pile.pop();
            boolean again = level(kept.kind, kept.n) != 0;
            if (again) {
                values.put(kept.kind * 32 + kept.n, kept.value);
                levels.put(kept.kind * 32 + kept.n, kept.level);
                back++;
            }
            went.add(new int[] {kept.kind, kept.n, again ? 1 : 0});
        }
        return back;
    }

    int restored(int i, int what) {
        noSuchUnless(i >= 0 && i < went.size() && what >= 0 && what < 3);
        return went.get(i)[what];
    }

    int behind(int i) {
        return i >= 0 && i < behind.size() ? behind.get(i) : -1;
    }

    long scaled(int up, int down, int unit) {
        wrongUnless(up >= 0 && up <= 1073741823 && unit >= 0 && unit <= 8);
        if (unit == 8) {
            return up;
        }
        wrongUnless(down >= 0 && down <= 65535);
        BigInteger points = big(up * 65536L + down).multiply(big(NUM[unit])).divide(big(DEN[unit]));
        return fits(points, 1) ? points.longValueExact() : -1;
    }

    int fraction(int digits, int many) {
        wrongUnless(many >= 1 && many <= 9 && digits >= 0);
        String text = String.valueOf(digits);
        wrongUnless(text.length() <= many);
        text = "0".repeat(many - text.length()) + text;
        int a = 0;
        for (int i = many - 1; i >= 0; i--) {
            a = (a + 131072 * (text.charAt(i) - '0')) / 10;
        }
        return (a + 1) / 2;
    }

    int shown(int kind, int n, int i) {
        wrongUnless(kind >= 0 && kind <= 4);
        register(n);
        String text = text(kind, value(kind, n));
        return i >= 0 && i < text.length() ? text.charAt(i) : -1;
    }

    int told(int what, int n) {
        if (what == 0) {
            return groups.size();
        }
        if (what == 1) {
            return kept();
        }
        wrongUnless(what >= 10 && what <= 14);
        register(n);
        return level(what - 10, n);
    }

    private static String text(int kind, List<Long> value) {
        switch (kind) {
            case 0:
                return String.valueOf(value.get(0));
            case 1:
                return points(value.get(0));
            case 2:
                return points(value.get(0)) + "pt"
                        + (value.get(1) == 0 ? "" : " plus " + points(value.get(1)) + ORDERS[value.get(2).intValue()])
                        + (value.get(3) == 0 ? "" : " minus " + points(value.get(3)) + ORDERS[value.get(4).intValue()]);
            case 3:
                StringBuilder row = new StringBuilder();
                for (long t : value) {
                    row.append((char) t);
                }
                return row.toString();
            default:
                return value.get(0) == -1 ? "void" : String.valueOf(value.get(0));
        }
    }

    private static String points(long v) {
        StringBuilder text = new StringBuilder(v < 0 ? "-" : "");
        long s = Math.abs(v);
        text.append(s / 65536).append('.');
        s = 10 * (s % 65536) + 5;
        long d = 10;
        do {
            if (d > 65536) {
                s -= 17232;
            }
            text.append(s / 65536);
            s = 10 * (s % 65536);
            d *= 10;
        } while (s > d);
        return text.toString();
    }

    private int put(int kind, int n, boolean all, BigInteger... made) {
        List<Long> value = new ArrayList<>();
        for (int i = 0; i < made.length; i++) {
            if (i != 2 && i != 4 && !fits(made[i], kind)) {
                return 0;
            }
            value.add(made[i].longValueExact());
        }
        return putValue(kind, n, all, value);
    }

    private int putValue(int kind, int n, boolean all, List<Long> value) {
        if (!all && level(kind, n) < groups.size()) {
            if (kept() == 200) {
                throw new UnsupportedOperationException();
            }
            groups.get(groups.size() - 1).pile.push(new Kept(kind, n, value(kind, n), level(kind, n)));
        }
        values.put(kind * 32 + n, List.copyOf(value));
        levels.put(kind * 32 + n, all ? 0 : groups.size());
        return 1;
    }

    private int kept() {
        int many = 0;
        for (Group g : groups) {
            many += g.pile.size();
        }
        return many;
    }

    private List<Long> value(int kind, int n) {
        return values.getOrDefault(kind * 32 + n, FIRST.get(kind));
    }

    private int level(int kind, int n) {
        return levels.getOrDefault(kind * 32 + n, 0);
    }

    private static BigInteger big(long v) {
        return BigInteger.valueOf(v);
    }

    private static boolean fits(BigInteger v, int kind) {
        return v.abs().compareTo(big(kind == 0 ? 2147483647L : 1073741823L)) <= 0;
    }

    private static void register(long n) {
        noSuchUnless(n >= 0 && n < 32);
    }

    private static void wrongUnless(boolean holds) {
        if (!holds) {
            throw new IllegalArgumentException();
        }
    }

    private static void noSuchUnless(boolean holds) {
        if (!holds) {
            throw new IndexOutOfBoundsException();
        }
    }

    private static void stateUnless(boolean holds) {
        if (!holds) {
            throw new IllegalStateException();
        }
    }
}
