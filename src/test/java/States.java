/** Objects to hold a call against: each made anew by the same calls, few enough that 120 of the 512 are left. */
enum States {
    NEW {
        @Override
        void fill(RegisterRows x) {
        }
    },
    /** Outside of all GROUPS again, with what the latest has left. */
    ENDED {
        @Override
        void fill(RegisterRows x) {
            x.group();
            setEach(x, 0, 1);
            x.set(0, 0, 5, true);
            x.after(0);
            x.after(255);
            x.end();
            x.glue(-1, 2, 3, 4, 1);
            x.token(0);
        }
    },
    /** Two GROUPS with something KEPT and told behind each, one that has ended, and a GLUE and a ROW that wait. */
    BUSY {
        @Override
        void fill(RegisterRows x) {
            Checks.putGlue(x, 0, 10, 20, 1, 30, 2);
            for (int n = 1; n < 4; n++) {
                x.set(0, n, 100 + n, false);
                x.set(1, n, -70000 * n, false);
                x.token(60 + n);
                x.token(70 + n);
                x.set(3, n, 0, false);
                x.set(4, n, 500 + n, false);
            }
            x.group();
            setEach(x, 1, 1);
            x.after(40);
            x.group();
            setEach(x, 1, 2);
            setEach(x, 30, 2);
            x.after(41);
            x.after(42);
            x.set(0, 2, 77, true);
            x.group();
            setEach(x, 2, 3);
            x.set(0, 1, 78, true);
            x.set(0, 1, 79, false);
            x.after(43);
            x.end();
            x.glue(1, -2, 3, 4, 2);
            x.token(1);
            x.token(255);
        }
    },
    /** 20 GROUPS, 200 KEPT, 60 TOKENS behind GROUPS, 20 TOKENS in the ROW that waits, some at their bounds. */
    FULL {
        @Override
        void fill(RegisterRows x) {
            x.group();
            x.set(4, 9, 9, false);
            x.after(9);
            x.end();
            x.set(0, 8, 2147483647, false);
            x.set(1, 8, 1073741823, false);
            Checks.putGlue(x, 8, 1073741823, -1073741823, 2, 1073741823, 3);
            for (int d = 1; d <= 20; d++) {
                x.group();
                setEach(x, 0, d);
                setEach(x, 1, 100 + d);
                x.after(d);
                x.after(20 + d);
                x.after(40 + d);
            }
            x.glue(5, 6, 1, 7, 2);
            for (int t = 0; t < 20; t++) {
                x.token(100 + t);
            }
        }
    };

    abstract void fill(RegisterRows x);

    RegisterRows make() {
        RegisterRows x = new RegisterRows();
        fill(x);
        return x;
    }

    /** REGISTER n of each KIND: seven calls. */
    private static void setEach(RegisterRows x, int n, int v) {
        x.set(0, n, v, false);
        x.set(1, n, v, false);
        x.glue(v, v + 1, v % 4, v + 2, (v + 1) % 4);
        x.set(2, n, v, false);
        x.token(v);
        x.set(3, n, v, false);
        x.set(4, n, v, false);
    }
}
