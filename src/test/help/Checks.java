import java.lang.reflect.Method;
import java.lang.reflect.Modifier;
import java.util.Arrays;
import java.util.Comparator;

/** What the tests by hand share: wrong answers are counted, objects made, rows told as texts. */
class Checks {
    static final int LEAST = Integer.MIN_VALUE, MOST = Integer.MAX_VALUE;
    static final int NONE = -1, BAD = -2, STATE = -3, FULL = -4, NO = -5;
    static final int NOTHING = -11, BEYOND = -13, BELOW = -14, NO_SUCH = -100, NO_PLACE = -1000000;

    static int wrong = 0;
    static String where = "";

    static void due(String call, long got, long want) {
        if (got != want) {
            wrong++;
            System.out.println(where + ": " + call + " answered " + got + ", due is " + want);
        }
    }

    static void dueText(String what, String got, String want) {
        if (!got.equals(want)) {
            wrong++;
            System.out.println(where + ": " + what + " is '" + got + "', due is '" + want + "'");
        }
    }

    static void feedAll(GateTurns x, String text) {
        for (int i = 0; i < text.length(); i++) {
            x.feed(text.charAt(i));
        }
    }

    static int read(GateTurns x, int task, String text) {
        feedAll(x, text);
        return x.program(task);
    }

    /** An object with a task for each text; an empty text: a task without a program. */
    static GateTurns with(String... texts) {
        GateTurns x = new GateTurns();
        for (String text : texts) {
            int task = x.task();
            if (!text.isEmpty()) {
                due("the program " + text, read(x, task, text) > 0 ? 1 : 0, 1);
            }
        }
        return x;
    }

    static void steps(GateTurns x, int... tasks) {
        for (int task : tasks) {
            due("a step of " + task + " is taken", x.step(task) >= 0 ? 1 : 0, 1);
        }
    }

    /** ENTRY (which 0) or WAIT (1) as a text. */
    static String row(GateTurns x, int monitor, int which) {
        StringBuilder s = new StringBuilder();
        for (int i = 0; i < 5 && x.stands(monitor, which, i) >= 0; i++) {
            s.append(x.stands(monitor, which, i));
        }
        return s.toString();
    }

    /** TROUBLE as a text: SORT:number of each cause. */
    static String cause(GateTurns x) {
        StringBuilder s = new StringBuilder();
        for (int i = 0; i < 10 && x.cause(i, 0) != NO; i++) {
            s.append(i == 0 ? "" : " ").append(x.cause(i, 0)).append(':').append(x.cause(i, 1));
        }
        return s.toString();
    }

    /** The text of as many statements, all alike. */
    static String times(int n, String statement) {
        StringBuilder s = new StringBuilder();
        for (int k = 0; k < n; k++) {
            s.append(k == 0 ? "" : ";").append(statement);
        }
        return s.toString();
    }

    /** Runs every check of a class: each static method without parameters that answers nothing. */
    static void runAll(Class<?> tests) throws ReflectiveOperationException {
        Method[] all = tests.getDeclaredMethods();
        Arrays.sort(all, Comparator.comparing(Method::getName));
        int checks = 0;
        for (Method m : all) {
            boolean isCheck = Modifier.isStatic(m.getModifiers()) && !m.isSynthetic()
                    && m.getParameterCount() == 0 && m.getReturnType() == void.class;
            if (isCheck) {
                where = tests.getName() + "." + m.getName();
                m.setAccessible(true);
                m.invoke(null);
                checks++;
            }
        }
        end(checks + " checks hold");
    }

    static void end(String good) {
        System.out.println(wrong == 0 ? good : wrong + " answers are not as due");
        if (wrong != 0) {
            System.exit(1);
        }
    }
}
