/** Promises 1 to 7 and 11: a new object, what waits, setting, reading, taking. */
public final class RegistersTest {
    private static final Class<IndexOutOfBoundsException> NO_SUCH = IndexOutOfBoundsException.class;
    private static final long MOST_LENGTH = 1073741823L;
    private static final Checks c = new Checks();

    public static void main(String[] args) {
        newRegisters();
        newObject();
        tokensWait();
        tokensAtTheirBounds();
        glueWaits();
        glueAtItsBounds();
        setWithinBounds();
        aCountIsNoLength();
        setRowEmptiesTheRowThatWaits();
        setRowOfTwenty();
        setGlueLeavesTheGlueThatWaits();
        eachRegisterIsItsOwn();
        taking();
        c.end();
    }

    private static void newRegisters() {
        for (int kind = 0; kind <= 4; kind++) {
            int k = kind;
            RegisterRows x = new RegisterRows();
            for (int n = 0; n < 32; n++) {
                int r = n;
                c.due("new get(" + k + ", " + r + ")", k == 4 ? -1 : 0, () -> x.get(k, r));
                c.due("new LEVEL of " + k + ", " + r, 0, () -> x.told(10 + k, r));
                if (k == 2) {
                    c.parts("new GLUE", x, r, 0, 0, 0, 0, 0);
                } else if (k == 3) {
                    c.refused("new at(" + r + ", 0)", NO_SUCH, () -> x.at(r, 0));
                } else if (k == 4) {
                    c.due("new take(" + r + ")", -1, () -> x.take(r));
                }
            }
        }
    }

    private static void newObject() {
        RegisterRows x = new RegisterRows();
        c.due("DEPTH of a new object", 0, () -> x.told(0, 0));
        c.due("KEPT of a new object", 0, () -> x.told(1, 0));
        c.refused("new end()", IllegalStateException.class, x::end);
        c.refused("new restored(0, 0)", NO_SUCH, () -> x.restored(0, 0));
        c.due("new behind(0)", -1, () -> x.behind(0));
        Checks.putGlue(x, 0, 1, 2, 1, 3, 1);
        x.token(5);
        x.set(3, 0, 0, false);
        RegisterRows y = new RegisterRows();
        c.due("the ROW that waits is empty", 1, () -> y.set(3, 0, 0, false));
        c.due("so is the REGISTER", 0, () -> y.get(3, 0));
        c.due("the first TOKEN", 1, () -> y.token(6));
        c.due("the GLUE that waits", 1, () -> y.set(2, 0, 0, false));
        c.parts("is of 0", y, 0, 0, 0, 0, 0, 0);
    }

    private static void tokensWait() {
        RegisterRows x = new RegisterRows();
        for (int i = 1; i <= 20; i++) {
            int many = i;
            c.due("token " + many, many, () -> x.token(200 + many));
        }
        c.due("the 21st", -1, () -> x.token(7));
        c.due("the 22nd", -1, () -> x.token(0));
        c.refused("a wrong one when there are 20", IllegalArgumentException.class, () -> x.token(256));
        c.due("set", 1, () -> x.set(3, 31, 0, false));
        c.due("20 are in it", 20, () -> x.get(3, 31));
        for (int i = 0; i < 20; i++) {
            int at = i;
            c.due("at(31, " + at + ")", 201 + at, () -> x.at(31, at));
        }
        c.refused("one more", NO_SUCH, () -> x.at(31, 20));
        c.refused("one before", NO_SUCH, () -> x.at(31, -1));
        c.due("token after that", 1, () -> x.token(9));
    }

    private static void tokensAtTheirBounds() {
        RegisterRows x = new RegisterRows();
        c.due("token(0)", 1, () -> x.token(0));
        c.due("token(255)", 2, () -> x.token(255));
        c.due("set", 1, () -> x.set(3, 0, 0, false));
        c.due("the first", 0, () -> x.at(0, 0));
        c.due("the second", 255, () -> x.at(0, 1));
        c.refused("none behind", NO_SUCH, () -> x.at(0, 2));
    }

    private static void glueWaits() {
        RegisterRows x = new RegisterRows();
        c.due("glue", 0, () -> Checks.glue(x, 9, 8, 3, 7, 0));
        c.parts("not set yet", x, 4, 0, 0, 0, 0, 0);
        c.due("set", 1, () -> x.set(2, 4, 77, false));
        c.parts("set", x, 4, 9, 8, 3, 7, 0);
        c.due("get", 9, () -> x.get(2, 4));
        c.due("glue", 0, () -> Checks.glue(x, -MOST_LENGTH, 1, 1, -2, 2));
        c.due("glue again", 0, () -> Checks.glue(x, -5, 0, 3, 0, 2));
        c.due("set", 1, () -> x.set(2, 5, Long.MIN_VALUE, false));
        c.parts("the later one", x, 5, -5, 0, 3, 0, 2);
        c.parts("the other stays", x, 4, 9, 8, 3, 7, 0);
    }

    private static void glueAtItsBounds() {
        for (long m : new long[] {MOST_LENGTH, -MOST_LENGTH}) {
            RegisterRows x = new RegisterRows();
            Checks.putGlue(x, 0, m, 0, 0, 0, 0);
            c.parts("natural " + m, x, 0, m, 0, 0, 0, 0);
            Checks.putGlue(x, 0, 0, m, 3, 0, 0);
            c.parts("stretch " + m, x, 0, 0, m, 3, 0, 0);
            Checks.putGlue(x, 0, 0, 0, 0, m, 3);
            c.parts("shrink " + m, x, 0, 0, 0, 0, m, 3);
            Checks.putGlue(x, 31, m, m, 3, m, 3);
            c.parts("all " + m, x, 31, m, m, 3, m, 3);
            c.due("get", m, () -> x.get(2, 31));
        }
        for (int by = 0; by <= 3; by++) {
            RegisterRows x = new RegisterRows();
            Checks.putGlue(x, 0, 1, 2, by, 3, 3 - by);
            c.parts("ORDERS", x, 0, 1, 2, by, 3, 3 - by);
        }
    }

    private static void setWithinBounds() {
        long[] most = {2147483647L, MOST_LENGTH};
        for (int kind = 0; kind < 2; kind++) {
            int k = kind;
            long m = most[k];
            RegisterRows x = new RegisterRows();
            c.due("set to the most", 1, () -> x.set(k, 0, m, false));
            c.due("get", m, () -> x.get(k, 0));
            c.due("set to the least", 1, () -> x.set(k, 31, -m, true));
            c.due("get", -m, () -> x.get(k, 31));
            for (long beyond : new long[] {m + 1, -m - 1, m + 4294967297L, Long.MAX_VALUE, Long.MIN_VALUE}) {
                c.due("set(" + k + ", 0, " + beyond + ")", 0, () -> x.set(k, 0, beyond, false));
                c.due("for all", 0, () -> x.set(k, 0, beyond, true));
                c.due("it stays", m, () -> x.get(k, 0));
            }
        }
        RegisterRows x = new RegisterRows();
        for (long box : new long[] {0, 999, -1, 500}) {
            c.due("set(4, 7, " + box + ")", 1, () -> x.set(4, 7, box, false));
            c.due("get", box, () -> x.get(4, 7));
        }
    }

    private static void aCountIsNoLength() {
        RegisterRows x = new RegisterRows();
        c.due("a COUNT beyond the LENGTHS", 1, () -> x.set(0, 0, MOST_LENGTH + 1, false));
        c.due("get", MOST_LENGTH + 1, () -> x.get(0, 0));
        c.due("a LENGTH of as much", 0, () -> x.set(1, 0, MOST_LENGTH + 1, false));
        c.due("get", 0, () -> x.get(1, 0));
    }

    private static void setRowEmptiesTheRowThatWaits() {
        RegisterRows x = new RegisterRows();
        x.token(65);
        x.token(66);
        c.refused("no REGISTER", NO_SUCH, () -> x.set(3, 32, 0, false));
        c.due("the ROW still waits", 3, () -> x.token(67));
        c.due("set", 1, () -> x.set(3, 1, Long.MAX_VALUE, false));
        c.due("get", 3, () -> x.get(3, 1));
        c.due("set again", 1, () -> x.set(3, 2, 0, false));
        c.due("empty", 0, () -> x.get(3, 2));
        c.refused("no TOKEN in it", NO_SUCH, () -> x.at(2, 0));
        c.due("token", 1, () -> x.token(68));
        c.due("set for all", 1, () -> x.set(3, 1, 0, true));
        c.due("shorter", 1, () -> x.get(3, 1));
        c.due("its TOKEN", 68, () -> x.at(1, 0));
        c.refused("nothing behind it", NO_SUCH, () -> x.at(1, 1));
        c.due("empty for all too", 1, () -> x.token(69));
        c.due("other KINDS leave the ROW: a COUNT", 1, () -> x.set(0, 1, 5, false));
        c.due("a LENGTH", 1, () -> x.set(1, 1, 5, false));
        c.due("a GLUE", 1, () -> x.set(2, 1, 5, false));
        c.due("a BOX", 1, () -> x.set(4, 1, 5, false));
        c.due("token", 2, () -> x.token(70));
    }

    private static void setRowOfTwenty() {
        RegisterRows x = new RegisterRows();
        for (int t = 1; t <= 20; t++) {
            x.token(t);
        }
        c.due("set", 1, () -> x.set(3, 0, 0, false));
        for (int t = 1; t <= 20; t++) {
            int many = t;
            c.due("from 0 again", many, () -> x.token(100 + many));
        }
        c.due("the 21st", -1, () -> x.token(121));
        c.due("set another", 1, () -> x.set(3, 1, 0, false));
        c.due("the last of the first", 20, () -> x.at(0, 19));
        c.due("the first of the other", 101, () -> x.at(1, 0));
        c.due("the last of the other", 120, () -> x.at(1, 19));
    }

    private static void setGlueLeavesTheGlueThatWaits() {
        RegisterRows x = new RegisterRows();
        Checks.putGlue(x, 0, 1, 2, 1, 3, 2);
        c.due("multiply it", 1, () -> x.multiply(2, 0, 7, false));
        c.due("set another", 1, () -> x.set(2, 1, 0, false));
        c.parts("the same GLUE", x, 1, 1, 2, 1, 3, 2);
        c.parts("the first", x, 0, 7, 14, 1, 21, 2);
    }

    /** All are set, and half of them read: the calls that an object is used for are not enough for more. */
    private static void eachRegisterIsItsOwn() {
        for (int first = 0; first < 32; first += 16) {
            RegisterRows x = new RegisterRows();
            for (int n = 0; n < 32; n++) {
                x.set(0, n, 100 + n, false);
                x.set(1, n, 200 + n, false);
                Checks.putGlue(x, n, 300 + n, 400 + n, n % 4, 500 + n, 3 - n % 4);
                x.token(n);
                x.token(255 - n);
                x.set(3, n, 0, false);
                x.set(4, n, 600 + n, false);
            }
            for (int n = first; n < first + 16; n++) {
                int r = n;
                c.due("COUNT " + r, 100 + r, () -> x.get(0, r));
                c.due("LENGTH " + r, 200 + r, () -> x.get(1, r));
                c.due("GLUE " + r, 300 + r, () -> x.get(2, r));
                c.parts("GLUE", x, r, 300 + r, 400 + r, r % 4, 500 + r, 3 - r % 4);
                c.due("ROW " + r, 2, () -> x.get(3, r));
                c.due("its first", r, () -> x.at(r, 0));
                c.due("its second", 255 - r, () -> x.at(r, 1));
                c.refused("no third", NO_SUCH, () -> x.at(r, 2));
                c.due("BOX " + r, 600 + r, () -> x.get(4, r));
            }
        }
    }

    private static void taking() {
        RegisterRows x = new RegisterRows();
        x.set(4, 31, 0, false);
        c.due("take", 0, () -> x.take(31));
        c.due("it is VOID", -1, () -> x.get(4, 31));
        c.due("take again", -1, () -> x.take(31));
        x.set(4, 0, 999, false);
        c.due("take the most", 999, () -> x.take(0));
        c.due("it is VOID", -1, () -> x.get(4, 0));
        x.set(4, 3, 5, false);
        x.group();
        c.due("take in a GROUP", 5, () -> x.take(3));
        c.due("its LEVEL stays", 0, () -> x.told(14, 3));
        c.due("nothing is KEPT", 0, () -> x.told(1, 0));
        x.set(4, 3, 6, false);
        c.due("KEPT", 1, () -> x.told(1, 0));
        x.group();
        c.due("take", 6, () -> x.take(3));
        c.due("its LEVEL stays", 1, () -> x.told(14, 3));
        c.due("still KEPT", 1, () -> x.told(1, 0));
        c.due("end", 0, x::end);
        c.due("VOID behind the inner GROUP", -1, () -> x.get(4, 3));
        c.due("end", 1, x::end);
        c.due("VOID, as it was KEPT", -1, () -> x.get(4, 3));
        x.set(4, 3, 7, false);
        x.group();
        x.set(4, 3, 8, false);
        c.due("take", 8, () -> x.take(3));
        c.due("end", 1, x::end);
        c.due("what was KEPT is not taken", 7, () -> x.take(3));
    }
}
