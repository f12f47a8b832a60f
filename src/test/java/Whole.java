import java.util.function.Supplier;

/**
 * All that calls can tell of an object, as text. Each view is of an object of its own, as some calls change what
 * others tell, and as an object is used for no more than 512.
 */
final class Whole {
    private static final int VIEWS = 15;

    private Whole() {
    }

    /** What is told now, and behind the end of each GROUP. */
    static String of(Supplier<RegisterRows> maker) {
        StringBuilder text = new StringBuilder();
        int depth = maker.get().told(0, 0);
        for (int ends = 0; ends <= depth; ends++) {
            for (int view = 0; view < VIEWS; view++) {
                RegisterRows x = maker.get();
                text.append("\nbehind ").append(ends).append(" ends, view ").append(view).append(":");
                for (int i = 0; i < ends; i++) {
                    text.append(' ').append(x.end());
                }
                text.append(':');
                look(x, view, text);
            }
        }
        return text.toString();
    }

    private static void look(RegisterRows x, int view, StringBuilder text) {
        if (view < 10) {
            registers(x, view / 2, view % 2 * 16, text);
        } else if (view == 10) {
            waiting(x, text);
        } else if (view == 11) {
            behind(x, text);
        } else {
            restored(x, view - 12, text);
        }
    }

    private static void registers(RegisterRows x, int kind, int first, StringBuilder text) {
        for (int n = first; n < first + 16; n++) {
            text.append(' ').append(x.get(kind, n)).append('@').append(x.told(10 + kind, n));
            for (int what = 1; kind == 2 && what < 5; what++) {
                text.append(',').append(x.part(n, what));
            }
            for (int i = 0; kind == 3 && i < x.get(3, n); i++) {
                text.append(',').append(x.at(n, i));
            }
        }
    }

    /** What waits is told only by setting it: for all, as that does on a full pile too. */
    private static void waiting(RegisterRows x, StringBuilder text) {
        x.set(2, 31, 0, true);
        for (int what = 0; what < 5; what++) {
            text.append(' ').append(x.part(31, what));
        }
        text.append(' ').append(x.token(0));
        x.set(3, 31, 0, true);
        for (int i = 0; i < x.get(3, 31); i++) {
            text.append(' ').append(x.at(31, i));
        }
    }

    private static void behind(RegisterRows x, StringBuilder text) {
        text.append(x.told(0, 0)).append(' ').append(x.told(1, 0));
        for (int i = 0; i <= 60; i++) {
            text.append(' ').append(x.behind(i));
        }
    }

    private static void restored(RegisterRows x, int what, StringBuilder text) {
        try {
            for (int i = 0; i <= 200; i++) {
                text.append(' ').append(x.restored(i, what));
            }
        } catch (IndexOutOfBoundsException e) {
            text.append('.');
        }
    }
}
