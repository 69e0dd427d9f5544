import java.util.EnumSet;
import java.util.Set;
import java.util.function.Supplier;

/**
 * All that can be asked of an object, in parts. A view may spoil the object and takes up to 300 calls of the 512, so each
 * look is at an object made anew.
 */
enum View {
    TASKS, MONITORS, CELLS, LATEST, PROGRAMS, TAPE, CONDITIONS, LISTS, TROUBLE, RUNS, IMAGE, PROGRAMS_OF_IMAGE;

    /** What differs wherever tasks, monitors or cells do. */
    static final Set<View> DESK = EnumSet.of(TASKS, MONITORS, CELLS, LATEST, RUNS);

    interface Call {
        int on(GateTurns x);
    }

    /** Makes a call on a new object: its answer is as due, and all views but some are as without the call. */
    static void onlyChanges(String call, Supplier<GateTurns> made, Call to, int answer, Set<View> some) {
        Checks.due(call, to.on(made.get()), answer);
        for (View view : values()) {
            if (!some.contains(view)) {
                GateTurns x = made.get();
                to.on(x);
                Checks.dueText(view + " behind " + call, view.of(x), view.of(made.get()));
            }
        }
    }

    static void changesNothing(String call, Supplier<GateTurns> made, Call to, int answer) {
        onlyChanges(call, made, to, answer, EnumSet.noneOf(View.class));
    }

    String of(GateTurns x) {
        StringBuilder s = new StringBuilder();
        switch (this) {
            case TASKS -> tasks(x, s);
            case MONITORS -> monitors(x, s);
            case CELLS -> cells(x, s);
            case LATEST -> s.append(x.told(5));
            case PROGRAMS -> programs(x, s, 4);
            case TAPE -> tape(x, s);
            case CONDITIONS -> conditions(x, s);
            case LISTS -> lists(x, s);
            case TROUBLE -> s.append(Checks.cause(x));
            case RUNS -> runs(x, s);
            case IMAGE -> image(x, s);
            default -> programsOfImage(x, s);
        }
        return s.toString();
    }

    private static void tasks(GateTurns x, StringBuilder s) {
        s.append(x.told(0)).append(' ').append(x.told(3)).append(' ').append(x.told(4));
        for (int t = 0; t < 4; t++) {
            for (int what = 0; what < 7; what++) {
                s.append(' ').append(x.of(t, what));
            }
        }
        for (int status = 0; status < 5; status++) {
            s.append(' ').append(x.are(status));
        }
    }

    private static void monitors(GateTurns x, StringBuilder s) {
        for (int m = 0; m < 3; m++) {
            for (int what = 0; what < 5; what++) {
                s.append(' ').append(x.gate(m, what));
            }
            s.append(" <").append(Checks.row(x, m, 0)).append("> <").append(Checks.row(x, m, 1)).append('>');
        }
    }

    private static void cells(GateTurns x, StringBuilder s) {
        for (int c = 0; c < 4; c++) {
            s.append(' ').append(x.cell(c));
        }
    }

    private static void programs(GateTurns x, StringBuilder s, int tasks) {
        for (int t = 0; t < tasks; t++) {
            for (int k = 0; k < 12; k++) {
                for (int what = 0; what < 4; what++) {
                    s.append(' ').append(x.statement(t, k, what));
                }
            }
        }
    }

    /** How many bytes, and what they are read as. */
    private static void tape(GateTurns x, StringBuilder s) {
        s.append(x.told(1));
        x.task();
        x.restart();
        s.append(' ').append(x.program(0));
        s.append(' ').append(Checks.cause(x));
        programs(x, s, 1);
    }

    /** How many, and whether they are so of many cells. */
    private static void conditions(GateTurns x, StringBuilder s) {
        s.append(x.told(2));
        int[] values = {-99, -7, -1, 0, 1, 5, 99};
        for (int c = 0; c < 4; c++) {
            x.put(c, 0);
        }
        for (int c = 0; c < 4; c++) {
            for (int v : values) {
                x.put(c, v);
                s.append(' ').append(x.holds());
            }
            x.put(c, c == 3 ? -7 : 0);
        }
        s.append(' ').append(x.holds());
    }

    private static void lists(GateTurns x, StringBuilder s) {
        for (int l = 0; l < 4; l++) {
            for (int i = 0; i < 40; i++) {
                s.append(' ').append(x.get(l, i));
            }
            s.append(' ').append(x.set(l, 0, 1));
        }
    }

    private static void runs(GateTurns x, StringBuilder s) {
        for (int what = 0; what < 9; what++) {
            s.append(' ').append(x.found(what));
        }
        for (int i = 0; i < 12; i++) {
            s.append(' ').append(x.schedule(0, i)).append(' ').append(x.schedule(1, i));
        }
        for (int k = 0; k < 6; k++) {
            for (int c = 0; c < 4; c++) {
                s.append(' ').append(x.outcome(k, c));
            }
        }
        s.append(' ').append(x.under(0)).append(' ').append(x.under(1)).append(' ').append(x.under(2));
        s.append(' ').append(x.round());
    }

    private static void image(GateTurns x, StringBuilder s) {
        int tasks = x.back();
        s.append(tasks).append(' ');
        if (tasks >= 0) {
            tasks(x, s);
            monitors(x, s);
            cells(x, s);
            s.append(' ').append(x.told(5));
        }
    }

    private static void programsOfImage(GateTurns x, StringBuilder s) {
        int tasks = x.back();
        s.append(tasks);
        programs(x, s, tasks);
    }
}
