/** What it is: an object is used for 512 calls, and the last of them is answered as the first would be. */
public final class UseTest {
    private static final int CALLS = 512;
    private static final Checks c = new Checks();

    public static void main(String[] args) {
        groupsThatCome();
        whatIsKept();
        tokensBehind();
        rows();
        sums();
        refusals();
        signs();
        c.end();
    }

    private static void groupsThatCome() {
        RegisterRows x = new RegisterRows();
        for (int i = 0; i < CALLS; i += 2) {
            c.due("group, call " + i, 1, x::group);
            c.due("end", 0, x::end);
        }
    }

    private static void whatIsKept() {
        RegisterRows x = new RegisterRows();
        for (int i = 1; i <= 170; i++) {
            int v = i;
            x.group();
            c.due("set, GROUP " + v, 1, () -> x.set(0, v % 32, v, false));
            c.due("end", 1, x::end);
        }
        c.due("what went last", 170 % 32, () -> x.restored(0, 1));
        c.due("KEPT", 0, () -> x.told(1, 0));
    }

    private static void tokensBehind() {
        RegisterRows x = new RegisterRows();
        for (int i = 0; i + 4 <= CALLS; i += 4) {
            int t = i % 256;
            x.group();
            c.due("after, call " + i, 1, () -> x.after(t));
            c.due("end", 0, x::end);
            c.due("behind", t, () -> x.behind(0));
        }
    }

    private static void rows() {
        RegisterRows x = new RegisterRows();
        for (int i = 0; i + 4 <= CALLS; i += 4) {
            int t = i % 256;
            c.due("token, call " + i, 1, () -> x.token(t));
            c.due("set", 1, () -> x.set(3, t % 32, 0, false));
            c.due("get", 1, () -> x.get(3, t % 32));
            c.due("at", t, () -> x.at(t % 32, 0));
        }
    }

    private static void sums() {
        RegisterRows x = new RegisterRows();
        for (int i = 1; i < CALLS; i++) {
            c.due("add, call " + i, 1, () -> x.add(0, 0, 1, false));
        }
        c.due("511 in all", 511, () -> x.get(0, 0));
    }

    private static void refusals() {
        RegisterRows x = new RegisterRows();
        for (int i = 1; i < CALLS; i++) {
            c.refused("end, call " + i, IllegalStateException.class, x::end);
        }
        c.due("group, the last call", 1, x::group);
    }

    private static void signs() {
        RegisterRows x = new RegisterRows();
        Checks.putGlue(x, 31, -1073741823, -1073741823, 3, -1073741823, 3);
        for (int i = 2; i < CALLS; i++) {
            c.due("shown, call " + i, 'l', () -> x.shown(2, 31, 60));
        }
    }
}
