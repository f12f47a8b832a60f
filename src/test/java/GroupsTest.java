/** Promises 4, 8 to 10 (what is KEPT) and 12 to 16: GROUPS, what they give back, TOKENS behind them. */
public final class GroupsTest {
    private static final Class<UnsupportedOperationException> FULL = UnsupportedOperationException.class;
    private static final Class<IndexOutOfBoundsException> NO_SUCH = IndexOutOfBoundsException.class;
    private static final Checks c = new Checks();

    public static void main(String[] args) {
        depth();
        eachKindComesBack();
        nothingIsKeptOutside();
        oncePerGroup();
        theLatestGoesFirst();
        setForAllStays();
        aLevelOfAnOuterGroup();
        anOuterGroupsPileStays();
        theLatestGroupThatEnded();
        twoHundredAreKept();
        aFullPileTakesWhatIsNotKept();
        aFullPileGoes();
        twoHundredOfOneGroup();
        tokensBehind();
        tokensBehindStay();
        sixtyOfThreeGroups();
        sixtyOfOneGroup();
        tokensBehindTheLastGroup();
        c.end();
    }

    private static void depth() {
        RegisterRows x = new RegisterRows();
        c.refused("end of none", IllegalStateException.class, x::end);
        for (int d = 1; d <= 20; d++) {
            int depth = d;
            c.due("group " + depth, depth, x::group);
            c.due("DEPTH", depth, () -> x.told(0, -7));
            c.due("set", 1, () -> x.set(0, 0, depth, false));
            c.due("LEVEL", depth, () -> x.told(10, 0));
        }
        c.refused("the 21st", FULL, x::group);
        c.due("DEPTH", 20, () -> x.told(0, 0));
        for (int d = 19; d >= 0; d--) {
            int depth = d;
            c.due("end", 1, x::end);
            c.due("DEPTH", depth, () -> x.told(0, 0));
            c.due("get", depth, () -> x.get(0, 0));
            c.due("LEVEL", depth, () -> x.told(10, 0));
        }
        c.refused("end of none", IllegalStateException.class, x::end);
        for (int d = 1; d <= 20; d++) {
            int depth = d;
            c.due("20 GROUPS again", depth, x::group);
        }
        c.refused("the 21st", FULL, x::group);
        c.due("end", 0, x::end);
        c.due("one again", 20, x::group);
    }

    private static void eachKindComesBack() {
        RegisterRows x = new RegisterRows();
        fill(x, 1);
        x.group();
        fill(x, 2);
        c.due("KEPT", 5, () -> x.told(1, 0));
        fill(x, 3);
        c.due("once each", 5, () -> x.told(1, 0));
        c.due("end", 5, x::end);
        c.due("none KEPT", 0, () -> x.told(1, 0));
        c.due("COUNT", 1, () -> x.get(0, 6));
        c.due("LENGTH", 1, () -> x.get(1, 6));
        c.parts("GLUE", x, 6, 1, 2, 1, 3, 3);
        c.dueText("ROW", "A", Checks.shown(x, 3, 6));
        c.due("BOX", 1, () -> x.get(4, 6));
        for (int i = 0; i < 5; i++) {
            int went = i;
            c.due("KIND that went", 4 - went, () -> x.restored(went, 0));
            c.due("its REGISTER", 6, () -> x.restored(went, 1));
            c.due("again", 1, () -> x.restored(went, 2));
            c.due("LEVEL", 0, () -> x.told(10 + went, 6));
        }
        c.refused("none before", NO_SUCH, () -> x.restored(-1, 0));
        c.refused("no sixth", NO_SUCH, () -> x.restored(5, 0));
        c.refused("nothing before the KIND", NO_SUCH, () -> x.restored(0, -1));
        c.refused("nothing behind what = 2", NO_SUCH, () -> x.restored(0, 3));
    }

    private static void fill(RegisterRows x, int v) {
        x.set(0, 6, v, false);
        x.set(1, 6, v, false);
        Checks.putGlue(x, 6, v, v + 1, 1, v + 2, 3);
        for (int i = 0; i < v; i++) {
            x.token(64 + v);
        }
        x.set(3, 6, 0, false);
        x.set(4, 6, v, false);
    }

    private static void nothingIsKeptOutside() {
        RegisterRows x = new RegisterRows();
        for (int kind = 0; kind <= 4; kind++) {
            int k = kind;
            c.due("set", 1, () -> x.set(k, 0, 5, false));
            c.due("set FOR ALL", 1, () -> x.set(k, 31, 5, true));
            c.due("KEPT", 0, () -> x.told(1, 0));
            c.due("LEVEL", 0, () -> x.told(10 + k, 0));
        }
        x.group();
        c.due("end of a GROUP with nothing", 0, x::end);
        c.refused("nothing went", NO_SUCH, () -> x.restored(0, 0));
        c.due("it stays", 5, () -> x.get(0, 0));
    }

    private static void oncePerGroup() {
        RegisterRows x = new RegisterRows();
        x.group();
        c.due("LEVEL 0 is less than 1", 1, () -> x.set(1, 0, 5, false));
        c.due("KEPT", 1, () -> x.told(1, 0));
        c.due("LEVEL 1 is not", 1, () -> x.set(1, 0, 6, false));
        c.due("KEPT", 1, () -> x.told(1, 0));
        x.group();
        c.due("LEVEL 1 is less than 2", 1, () -> x.set(1, 0, 7, false));
        c.due("KEPT", 2, () -> x.told(1, 0));
        c.due("LEVEL 2 is not", 1, () -> x.set(1, 0, 8, false));
        c.due("KEPT", 2, () -> x.told(1, 0));
        c.due("end", 1, x::end);
        c.due("as it was latest at LEVEL 1", 6, () -> x.get(1, 0));
        c.due("LEVEL", 1, () -> x.told(11, 0));
        c.due("end", 1, x::end);
        c.due("as it was outside", 0, () -> x.get(1, 0));
    }

    private static void theLatestGoesFirst() {
        RegisterRows x = new RegisterRows();
        x.group();
        x.set(0, 1, 10, false);
        x.set(1, 2, 20, false);
        x.set(0, 1, 11, true);
        x.set(0, 1, 12, false);
        x.set(4, 3, 30, false);
        c.due("KEPT", 4, () -> x.told(1, 0));
        c.due("end", 3, x::end);
        long[][] went = {{4, 3, 1}, {0, 1, 1}, {1, 2, 1}, {0, 1, 0}};
        for (int i = 0; i < 4; i++) {
            for (int what = 0; what < 3; what++) {
                int w = what;
                int at = i;
                c.due("restored(" + at + ", " + w + ")", went[at][w], () -> x.restored(at, w));
            }
        }
        c.due("what was set for all", 11, () -> x.get(0, 1));
        c.due("its LEVEL", 0, () -> x.told(10, 1));
    }

    private static void setForAllStays() {
        for (int kind = 0; kind <= 4; kind++) {
            int k = kind;
            RegisterRows x = new RegisterRows();
            setTo(x, k, 1, false);
            x.group();
            setTo(x, k, 2, false);
            x.group();
            setTo(x, k, 3, false);
            x.group();
            setTo(x, k, 4, true);
            c.due("LEVEL", 0, () -> x.told(10 + k, 0));
            c.due("KEPT", 2, () -> x.told(1, 0));
            c.due("end", 0, x::end);
            c.refused("nothing went", NO_SUCH, () -> x.restored(0, 0));
            c.due("end", 0, x::end);
            c.due("it went", 0, () -> x.restored(0, 2));
            c.due("end", 0, x::end);
            c.due("it went", 0, () -> x.restored(0, 2));
            c.due("it stays", 4, () -> x.get(k, 0));
            c.due("LEVEL", 0, () -> x.told(10 + k, 0));
        }
    }

    /** After this get(kind, 0) is v. */
    private static void setTo(RegisterRows x, int kind, int v, boolean all) {
        for (int i = 0; kind == 3 && i < v; i++) {
            x.token(i);
        }
        x.glue(v, 0, 0, 0, 0);
        x.set(kind, 0, v, all);
    }

    private static void aLevelOfAnOuterGroup() {
        RegisterRows x = new RegisterRows();
        x.group();
        x.set(0, 0, 5, false);
        x.group();
        x.group();
        x.set(0, 0, 6, true);
        x.set(0, 0, 7, false);
        c.due("LEVEL", 3, () -> x.told(10, 0));
        c.due("end", 1, x::end);
        c.due("as set FOR ALL", 6, () -> x.get(0, 0));
        c.due("LEVEL", 0, () -> x.told(10, 0));
        x.set(0, 0, 8, false);
        c.due("LEVEL", 2, () -> x.told(10, 0));
        c.due("end", 1, x::end);
        c.due("as set FOR ALL", 6, () -> x.get(0, 0));
        c.due("end", 0, x::end);
        c.due("not as before the first GROUP", 6, () -> x.get(0, 0));
    }

    private static void anOuterGroupsPileStays() {
        RegisterRows x = new RegisterRows();
        x.group();
        x.set(0, 0, 5, false);
        x.group();
        x.set(0, 1, 6, false);
        x.set(0, 0, 7, false);
        c.due("end", 2, x::end);
        c.due("KEPT", 1, () -> x.told(1, 0));
        c.due("as in the outer GROUP", 5, () -> x.get(0, 0));
        c.due("with its LEVEL", 1, () -> x.told(10, 0));
        c.due("end", 1, x::end);
        c.due("KEPT", 0, () -> x.told(1, 0));
        c.due("as outside", 0, () -> x.get(0, 0));
    }

    private static void theLatestGroupThatEnded() {
        RegisterRows x = new RegisterRows();
        x.group();
        x.group();
        x.set(1, 5, 7, false);
        x.set(2, 6, 7, false);
        x.end();
        x.group();
        x.set(0, 7, 7, false);
        c.due("what the latest left, still", 2, () -> x.restored(0, 0));
        c.due("and", 5, () -> x.restored(1, 1));
        x.end();
        c.due("now its own", 7, () -> x.restored(0, 1));
        c.refused("one alone", NO_SUCH, () -> x.restored(1, 1));
        c.due("end of one with nothing", 0, x::end);
        c.refused("nothing went", NO_SUCH, () -> x.restored(0, 1));
    }

    private static void twoHundredAreKept() {
        RegisterRows x = new RegisterRows();
        for (int i = 0; i < 200; i++) {
            if (i % 100 == 0) {
                x.group();
            }
            int many = i + 1;
            int place = i % 100;
            c.due("set", 1, () -> x.set(place / 32, place % 32, 5, false));
            c.due("KEPT", many, () -> x.told(1, 0));
        }
        c.due("KEPT", 200, () -> x.told(1, 0));
        c.refused("one more", FULL, () -> x.set(4, 0, 0, false));
        c.due("KEPT", 200, () -> x.told(1, 0));
    }

    private static void aFullPileTakesWhatIsNotKept() {
        RegisterRows x = States.FULL.make();
        c.due("KEPT", 200, () -> x.told(1, 0));
        for (int kind = 0; kind < 5; kind++) {
            int k = kind;
            c.refused("one more of KIND " + k, FULL, () -> x.set(k, 20, 3, false));
            c.due("its LEVEL is the DEPTH", 1, () -> x.set(k, 0, 3, false));
            c.due("FOR ALL", 1, () -> x.set(k, 21, 3, true));
            c.due("KEPT", 200, () -> x.told(1, 0));
            if (k < 3) {
                c.due("add, its LEVEL is the DEPTH", 1, () -> x.add(k, 1, 0, false));
                c.due("multiply FOR ALL", 1, () -> x.multiply(k, 22, 3, true));
                c.due("divide FOR ALL", 1, () -> x.divide(k, 22, 3, true));
            }
        }
        c.refused("as set FOR ALL it would be KEPT", FULL, () -> x.set(0, 21, 4, false));
        c.due("the ROW went with the first set", 20, () -> x.get(3, 0));
        c.due("and was empty then", 0, () -> x.get(3, 21));
        c.due("token", 1, () -> x.token(66));
        c.refused("a ROW on a full pile", FULL, () -> x.set(3, 20, 0, false));
        c.due("the ROW still waits", 2, () -> x.token(67));
        x.end();
        c.due("KEPT", 190, () -> x.told(1, 0));
        for (int n = 10; n < 20; n++) {
            int r = n;
            c.due("room again", 1, () -> x.set(4, r, 1, false));
        }
        c.refused("for ten", FULL, () -> x.set(4, 20, 1, false));
    }

    private static void aFullPileGoes() {
        RegisterRows x = States.FULL.make();
        for (int d = 19; d >= 0; d--) {
            int depth = d;
            c.due("end", 10, x::end);
            c.due("KEPT", depth * 10, () -> x.told(1, 0));
            c.due("COUNT", depth, () -> x.get(0, 0));
            c.due("BOX", depth == 0 ? -1 : 100 + depth, () -> x.get(4, 1));
            if (depth % 4 == 0) {
                c.due("the last that went", 0, () -> x.restored(9, 1));
                c.refused("no more went", NO_SUCH, () -> x.restored(10, 1));
            }
        }
        c.due("ROW", 0, () -> x.get(3, 0));
        c.due("GLUE", 0, () -> x.get(2, 1));
    }

    private static void twoHundredOfOneGroup() {
        RegisterRows x = new RegisterRows();
        x.group();
        for (int i = 0; i < 160; i++) {
            x.set(i / 32, i % 32, 5, false);
        }
        for (int i = 0; i < 40; i++) {
            x.set(0, 0, i, true);
            x.set(0, 0, i, false);
        }
        c.due("KEPT", 200, () -> x.told(1, 0));
        // The COUNT set for all comes back once, by its latest; its 40 others stay what they are.
        c.due("end", 160, x::end);
        c.due("KEPT", 0, () -> x.told(1, 0));
        c.due("the first that went", 1, () -> x.restored(0, 2));
        c.due("the second", 0, () -> x.restored(1, 2));
        c.due("before the last", 1, () -> x.restored(198, 1));
        c.due("the last that went", 0, () -> x.restored(199, 2));
        c.refused("no more", NO_SUCH, () -> x.restored(200, 2));
        c.due("get", 39, () -> x.get(0, 0));
        c.due("another", 0, () -> x.get(0, 1));
        c.due("the last", -1, () -> x.get(4, 31));
    }

    private static void tokensBehind() {
        RegisterRows x = new RegisterRows();
        x.group();
        c.due("after", 1, () -> x.after(0));
        c.due("after", 2, () -> x.after(255));
        x.group();
        c.due("after, inner", 1, () -> x.after(7));
        c.due("none told yet", -1, () -> x.behind(0));
        x.end();
        c.due("behind(0)", 7, () -> x.behind(0));
        c.due("behind(1)", -1, () -> x.behind(1));
        c.due("after, outer again", 3, () -> x.after(8));
        x.end();
        c.due("behind(0)", 0, () -> x.behind(0));
        c.due("behind(1)", 255, () -> x.behind(1));
        c.due("behind(2)", 8, () -> x.behind(2));
        for (int i : new int[] {3, 60, -1, Integer.MAX_VALUE, Integer.MIN_VALUE}) {
            c.due("behind(" + i + ")", -1, () -> x.behind(i));
        }
        c.refused("after, outside", IllegalStateException.class, () -> x.after(0));
    }

    private static void tokensBehindStay() {
        RegisterRows x = new RegisterRows();
        x.group();
        x.after(7);
        x.after(8);
        x.end();
        x.group();
        c.due("a new GROUP's", 1, () -> x.after(9));
        c.due("the ended one's, still", 7, () -> x.behind(0));
        c.due("and", 8, () -> x.behind(1));
        x.end();
        c.due("now its own", 9, () -> x.behind(0));
        c.due("one alone", -1, () -> x.behind(1));
        x.group();
        x.end();
        c.due("none", -1, () -> x.behind(0));
    }

    private static void sixtyOfThreeGroups() {
        RegisterRows x = new RegisterRows();
        for (int d = 1; d <= 3; d++) {
            x.group();
            for (int i = 1; i <= 20; i++) {
                int many = i;
                c.due("after", many, () -> x.after(many));
            }
        }
        c.refused("the 61st", FULL, () -> x.after(1));
        x.group();
        c.refused("for another GROUP", FULL, () -> x.after(1));
        x.end();
        c.due("it had none", -1, () -> x.behind(0));
        x.end();
        c.due("the last", 20, () -> x.behind(19));
        c.due("no more", -1, () -> x.behind(20));
        for (int i = 21; i <= 40; i++) {
            int many = i;
            c.due("room again", many, () -> x.after(many));
        }
        c.refused("60 again", FULL, () -> x.after(1));
        x.end();
        c.due("the 40th", 40, () -> x.behind(39));
        c.due("no 41st", -1, () -> x.behind(40));
    }

    private static void sixtyOfOneGroup() {
        RegisterRows x = new RegisterRows();
        x.group();
        for (int i = 1; i <= 60; i++) {
            int many = i;
            c.due("after", many, () -> x.after(many));
        }
        c.refused("the 61st", FULL, () -> x.after(0));
        x.end();
        c.due("the first", 1, () -> x.behind(0));
        c.due("the 60th", 60, () -> x.behind(59));
        c.due("no 61st", -1, () -> x.behind(60));
        x.group();
        c.due("those of an ended GROUP count no more", 1, () -> x.after(0));
    }

    private static void tokensBehindTheLastGroup() {
        RegisterRows x = new RegisterRows();
        for (int d = 1; d <= 20; d++) {
            int depth = d;
            x.group();
            c.due("after", 1, () -> x.after(depth));
        }
        c.due("after, of the 20th", 2, () -> x.after(99));
        x.end();
        c.due("behind(0)", 20, () -> x.behind(0));
        c.due("behind(1)", 99, () -> x.behind(1));
        c.due("behind(2)", -1, () -> x.behind(2));
        x.end();
        c.due("behind(0)", 19, () -> x.behind(0));
        c.due("behind(1)", -1, () -> x.behind(1));
    }
}
