import java.util.EnumSet;
import java.util.Set;
import java.util.function.Supplier;

/**
 * The document's words on answers: a refused call changes nothing but what is named, nor does what is asked. Each call is
 * made on an object in which everything is in use, and all that can be asked of it is compared with one without the call.
 */
public final class Refusals extends Checks {

    /**
     * Four tasks: WAITING at 0, READY (owner of 0 and 1), BROKEN at place 0, BLOCKED at 1; lists, conditions, bytes on the
     * tape, trouble, and an image that is unlike what is now.
     */
    private static GateTurns busy() {
        GateTurns x = with("enter 0;wait 0;set 1 3", "enter 1;enter 0;enter 0;leave 0", "leave 1", "enter 1;add 0 2");
        x.missing(2, true);
        x.put(3, -7);
        steps(x, 0, 0, 1, 3, 2);
        x.list(0, 5);
        x.set(0, 1, 1);
        x.set(0, 4, 77);
        x.list(1, 0);
        x.list(3, 40);
        x.set(3, 39, LEAST);
        x.condition(3, 0, 0);
        x.condition(0, 3, 1);
        x.image();
        x.put(2, 8);
        steps(x, 1);
        feedAll(x, "set 0 1;all 0");
        return x;
    }

    /** One task that is DONE, one READY that owns 1, a full tape, four conditions; no image, no lists, no trouble. */
    private static GateTurns filled() {
        GateTurns x = with("enter 0", "enter 1;enter 2;leave 2", "");
        steps(x, 0, 0, 1);
        for (int v = 1; v <= 4; v++) {
            x.condition(v - 1, 3, v);
        }
        feedAll(x, times(12, "jump 0123") + "z");
        due("a full tape", x.told(1), 120);
        return x;
    }

    /** Two tasks that can stick, one condition that fails now, a list of 3 nines. */
    private static GateTurns sticky() {
        GateTurns x = with("enter 0;enter 1", "enter 1;enter 0");
        x.condition(2, 1, 4);
        x.list(2, 3);
        for (int i = 0; i < 3; i++) {
            x.set(2, i, 9);
        }
        return x;
    }

    private static void refused(Supplier<GateTurns> made, String call, View.Call to, int answer) {
        View.changesNothing(call, made, to, answer);
    }

    /** Promise 2: "FULL: four." */
    private static void task() {
        refused(Refusals::busy, "task()", x -> x.task(), FULL);
    }

    /** Promise 4: "NONE; STATE: it has an OWNER, or one stands in ENTRY or WAIT." */
    private static void missing() {
        for (boolean is : new boolean[] {true, false}) {
            refused(Refusals::busy, "missing(-1)", x -> x.missing(-1, is), NONE);
            refused(Refusals::busy, "missing(3)", x -> x.missing(3, is), NONE);
            refused(Refusals::busy, "an OWNER, one waits", x -> x.missing(0, is), STATE);
            refused(Refusals::busy, "an OWNER, one stands", x -> x.missing(1, is), STATE);
            refused(Refusals::filled, "an OWNER", x -> x.missing(1, is), STATE);
            Supplier<GateTurns> waits = () -> {
                GateTurns x = with("enter 2;wait 2");
                steps(x, 0, 0);
                return x;
            };
            refused(waits, "one waits", x -> x.missing(2, is), STATE);
        }
    }

    /** Promise 5: "-100: no such CELL, v is not so." */
    private static void put() {
        refused(Refusals::busy, "put(-1, 1)", x -> x.put(-1, 1), NO_SUCH);
        refused(Refusals::busy, "put(4, 1)", x -> x.put(4, 1), NO_SUCH);
        refused(Refusals::busy, "put(0, 100)", x -> x.put(0, 100), NO_SUCH);
        refused(Refusals::busy, "put(3, -100)", x -> x.put(3, -100), NO_SUCH);
    }

    /** Promise 6: "-100: no such CELL." */
    private static void cell() {
        refused(Refusals::busy, "cell(-1)", x -> x.cell(-1), NO_SUCH);
        refused(Refusals::busy, "cell(4)", x -> x.cell(4), NO_SUCH);
    }

    /** Promise 7: "A byte (1 .. 127) comes behind THE TAPE's: how many it has. BAD; FULL." */
    private static void feed() {
        for (int letter : new int[] {0, 128, -1, 256 + 'a', LEAST, MOST}) {
            refused(Refusals::busy, "feed(" + letter + ")", x -> x.feed(letter), BAD);
            refused(Refusals::filled, "feed(" + letter + ")", x -> x.feed(letter), BAD);
        }
        refused(Refusals::filled, "feed(1)", x -> x.feed(1), FULL);
        refused(Refusals::filled, "feed(127)", x -> x.feed(127), FULL);
    }

    /** Promise 9: "NONE; STATE: its PLACE isn't 0, or it isn't READY (THE TAPE stays by these two)." */
    private static void program() {
        refused(Refusals::busy, "program(-1)", x -> x.program(-1), NONE);
        refused(Refusals::busy, "program(4)", x -> x.program(4), NONE);
        refused(Refusals::filled, "program(3)", x -> x.program(3), NONE);
        refused(Refusals::busy, "WAITING", x -> x.program(0), STATE);
        refused(Refusals::busy, "READY, its PLACE isn't 0", x -> x.program(1), STATE);
        refused(Refusals::busy, "BROKEN at PLACE 0", x -> x.program(2), STATE);
        refused(Refusals::busy, "BLOCKED", x -> x.program(3), STATE);
        refused(Refusals::filled, "DONE", x -> x.program(0), STATE);
        Supplier<GateTurns> none = () -> {
            GateTurns x = with("", "");
            steps(x, 0);
            feedAll(x, "all 1");
            return x;
        };
        refused(none, "DONE at PLACE 0", x -> x.program(0), STATE);
    }

    /** Promise 9: "how many STATEMENTS; -100 less the FAULT." */
    private static void programWithAFault() {
        View.onlyChanges("a FAULT", Refusals::filled, x -> x.program(2), -107, EnumSet.of(View.TAPE, View.TROUBLE));
        GateTurns x = filled();
        x.program(2);
        due("THE TAPE", x.told(1), 0);
        dueText("TROUBLE", cause(x), "1:2 2:1 3:7");
    }

    /** Promise 10: "-100: no such." */
    private static void statement() {
        refused(Refusals::busy, "statement(4, 0, 0)", x -> x.statement(4, 0, 0), NO_SUCH);
        refused(Refusals::busy, "statement(0, 3, 0)", x -> x.statement(0, 3, 0), NO_SUCH);
        refused(Refusals::busy, "statement(0, 0, 4)", x -> x.statement(0, 0, 4), NO_SUCH);
    }

    /** Promise 11: "NONE; STATE: it isn't READY." */
    private static void step() {
        refused(Refusals::busy, "step(-1)", x -> x.step(-1), NONE);
        refused(Refusals::busy, "step(4)", x -> x.step(4), NONE);
        refused(Refusals::filled, "step(3)", x -> x.step(3), NONE);
        refused(Refusals::busy, "WAITING", x -> x.step(0), STATE);
        refused(Refusals::busy, "BROKEN", x -> x.step(2), STATE);
        refused(Refusals::busy, "BLOCKED", x -> x.step(3), STATE);
        refused(Refusals::filled, "DONE", x -> x.step(0), STATE);
    }

    /** Promise 12: "NONE: scheduler; BAD." */
    private static void run() {
        refused(Refusals::busy, "run(-1, 1)", x -> x.run(-1, 1), NONE);
        refused(Refusals::busy, "run(3, 1)", x -> x.run(3, 1), NONE);
        for (int scheduler = 0; scheduler < 3; scheduler++) {
            int s = scheduler;
            refused(Refusals::busy, "run(s, -1)", x -> x.run(s, -1), BAD);
            refused(Refusals::busy, "run(s, 41)", x -> x.run(s, 41), BAD);
            refused(Refusals::busy, "run(s, 0)", x -> x.run(s, 0), 0);
        }
    }

    /** Promise 13: "not all n places are there, or i, n below 0: BEYOND ahead of any STEP; n 0 with i 0 .. the LIST's size:
     * 0" */
    private static void follow() {
        refused(Refusals::busy, "follow(-1, 1, 1)", x -> x.follow(-1, 1, 1), NONE);
        refused(Refusals::busy, "follow(4, 1, 1)", x -> x.follow(4, 1, 1), NONE);
        refused(Refusals::busy, "follow(2, 1, 1)", x -> x.follow(2, 1, 1), NOTHING);
        refused(Refusals::busy, "follow(0, 1, 5)", x -> x.follow(0, 1, 5), BEYOND);
        refused(Refusals::busy, "follow(0, 1, MOST)", x -> x.follow(0, 1, MOST), BEYOND);
        refused(Refusals::busy, "follow(0, -1, 3)", x -> x.follow(0, -1, 3), BEYOND);
        refused(Refusals::busy, "follow(0, 1, -1)", x -> x.follow(0, 1, -1), BEYOND);
        refused(Refusals::busy, "follow(0, 6, 0)", x -> x.follow(0, 6, 0), BEYOND);
        refused(Refusals::busy, "follow(0, 5, 0)", x -> x.follow(0, 5, 0), 0);
        refused(Refusals::busy, "follow(0, 1, 0)", x -> x.follow(0, 1, 0), 0);
        refused(Refusals::busy, "the first isn't READY", x -> x.follow(0, 0, 2), 0);
        refused(Refusals::busy, "the first is none", x -> x.follow(0, 4, 1), 0);
        refused(Refusals::busy, "a far one is none", x -> x.follow(3, 39, 1), 0);
    }

    /** Promise 22: "NONE: list, what; NOTHING; -5: there is none such" */
    private static void lay() {
        refused(Refusals::busy, "lay(0, -1, 0)", x -> x.lay(0, -1, 0), NONE);
        refused(Refusals::busy, "lay(0, 4, 0)", x -> x.lay(0, 4, 0), NONE);
        refused(Refusals::busy, "lay(-1, 0, 0)", x -> x.lay(-1, 0, 0), NONE);
        refused(Refusals::busy, "lay(2, 0, 0)", x -> x.lay(2, 0, 0), NONE);
        refused(Refusals::busy, "lay(0, 2, 0)", x -> x.lay(0, 2, 0), NOTHING);
        Supplier<GateTurns> good = () -> {
            GateTurns x = with("", "");
            x.list(1, 4);
            x.set(1, 0, 5);
            return x;
        };
        refused(good, "lay(0, 1, 0)", x -> x.lay(0, 1, 0), NO);
        refused(good, "lay(1, 1, 0)", x -> x.lay(1, 1, 0), NO);
    }

    /** Promise 22: "BEYOND: not all were (those that had a place are there all the same; none, if i is below 0; a SCHEDULE
     * of no TASKS is laid whatever i: 0)." */
    private static void layBeyond() {
        View.onlyChanges("lay(0, 2, 0)", Refusals::sticky, x -> x.lay(0, 2, 0), BEYOND, EnumSet.of(View.LISTS));
        View.onlyChanges("lay(0, 2, 2)", Refusals::sticky, x -> x.lay(0, 2, 2), BEYOND, EnumSet.of(View.LISTS));
        for (int i : new int[] {-1, -4, LEAST, 3, 4, MOST}) {
            refused(Refusals::sticky, "lay(0, 2, " + i + ")", x -> x.lay(0, 2, i), BEYOND);
        }
        for (int i : new int[] {-1, 0, 3, 4, MOST, LEAST}) {
            refused(Refusals::sticky, "lay(1, 2, " + i + ")", x -> x.lay(1, 2, i), 0);
        }
    }

    /** Promise 26: "NONE: cell, how; BAD: v (-99 .. 99); FULL: four." */
    private static void condition() {
        for (Supplier<GateTurns> made : java.util.List.<Supplier<GateTurns>>of(Refusals::busy, Refusals::filled)) {
            refused(made, "condition(-2, 1, 5)", x -> x.condition(-2, 1, 5), NONE);
            refused(made, "condition(4, 1, 5)", x -> x.condition(4, 1, 5), NONE);
            refused(made, "condition(0, -1, 5)", x -> x.condition(0, -1, 5), NONE);
            refused(made, "condition(0, 4, 5)", x -> x.condition(0, 4, 5), NONE);
            refused(made, "condition(0, 1, 100)", x -> x.condition(0, 1, 100), BAD);
            refused(made, "condition(0, 1, -100)", x -> x.condition(0, 1, -100), BAD);
        }
        refused(Refusals::filled, "condition(0, 1, 5)", x -> x.condition(0, 1, 5), FULL);
    }

    /** Promise 28: "NONE: list; BAD: n above 40; BELOW." */
    private static void list() {
        refused(Refusals::busy, "list(-1, 1)", x -> x.list(-1, 1), NONE);
        refused(Refusals::busy, "list(4, 1)", x -> x.list(4, 1), NONE);
        for (int l = 0; l < 4; l++) {
            int list = l;
            refused(Refusals::busy, "list(l, 41)", x -> x.list(list, 41), BAD);
            refused(Refusals::busy, "list(l, -1)", x -> x.list(list, -1), BELOW);
        }
    }

    /** Promise 29: "NONE; NOTHING; BEYOND." */
    private static void set() {
        refused(Refusals::busy, "set(-1, 0, 3)", x -> x.set(-1, 0, 3), NONE);
        refused(Refusals::busy, "set(4, 0, 3)", x -> x.set(4, 0, 3), NONE);
        refused(Refusals::busy, "set(2, 0, 3)", x -> x.set(2, 0, 3), NOTHING);
        refused(Refusals::busy, "set(1, 0, 3)", x -> x.set(1, 0, 3), BEYOND);
        refused(Refusals::busy, "set(0, 5, 3)", x -> x.set(0, 5, 3), BEYOND);
        refused(Refusals::busy, "set(0, -1, 3)", x -> x.set(0, -1, 3), BEYOND);
        refused(Refusals::busy, "set(3, 40, 3)", x -> x.set(3, 40, 3), BEYOND);
    }

    /** Promise 30: "-1000000: no such LIST, nothing there, no such place." */
    private static void get() {
        refused(Refusals::busy, "get(4, 0)", x -> x.get(4, 0), NO_PLACE);
        refused(Refusals::busy, "get(2, 0)", x -> x.get(2, 0), NO_PLACE);
        refused(Refusals::busy, "get(0, 5)", x -> x.get(0, 5), NO_PLACE);
    }

    /** Promise 32: "STATE: there is none." */
    private static void back() {
        refused(Refusals::filled, "back()", x -> x.back(), STATE);
    }

    /** Terms, answers: "what is asked changes nothing but LISTS that are told" */
    private static void whatIsAsked() {
        refused(Refusals::busy, "cell(3)", x -> x.cell(3), -7);
        refused(Refusals::busy, "statement(0, 2, 2)", x -> x.statement(0, 2, 2), 3);
        refused(Refusals::busy, "of(0, 0)", x -> x.of(0, 0), 2);
        refused(Refusals::busy, "of(4, 0)", x -> x.of(4, 0), NONE);
        refused(Refusals::busy, "gate(0, 0)", x -> x.gate(0, 0), 1);
        refused(Refusals::busy, "gate(3, 0)", x -> x.gate(3, 0), NONE);
        refused(Refusals::busy, "stands(1, 0, 0)", x -> x.stands(1, 0, 0), 3);
        refused(Refusals::busy, "stands(1, 0, 1)", x -> x.stands(1, 0, 1), NONE);
        refused(Refusals::busy, "are(4)", x -> x.are(4), 4);
        refused(Refusals::busy, "are(5)", x -> x.are(5), NONE);
        refused(Refusals::busy, "told(1)", x -> x.told(1), 13);
        refused(Refusals::busy, "told(6)", x -> x.told(6), NONE);
        refused(Refusals::busy, "cause(2, 1)", x -> x.cause(2, 1), 1);
        refused(Refusals::busy, "cause(3, 1)", x -> x.cause(3, 1), NO);
        refused(Refusals::busy, "cause(-1, 1)", x -> x.cause(-1, 1), NONE);
        for (int what = 0; what < 9; what++) {
            int w = what;
            refused(Refusals::busy, "found(what)", x -> x.found(w), busy().found(w));
        }
        refused(Refusals::busy, "found(9)", x -> x.found(9), NONE);
        refused(Refusals::sticky, "schedule(0, 3)", x -> x.schedule(0, 3), 1);
        refused(Refusals::sticky, "schedule(0, 4)", x -> x.schedule(0, 4), NONE);
        refused(Refusals::sticky, "schedule(2, 0)", x -> x.schedule(2, 0), NONE);
        refused(Refusals::filled, "outcome(0, 0)", x -> x.outcome(0, 0), 0);
        refused(Refusals::filled, "outcome(9, 0)", x -> x.outcome(9, 0), NO_SUCH);
        refused(Refusals::filled, "under(1)", x -> x.under(1), 4);
        refused(Refusals::filled, "under(3)", x -> x.under(3), NONE);
        refused(Refusals::sticky, "round()", x -> x.round(), 1);
        refused(Refusals::sticky, "holds()", x -> x.holds(), 0);
        refused(Refusals::busy, "get(3, 39)", x -> x.get(3, 39), LEAST);
        View.onlyChanges("lay(1, 0, 0)", Refusals::busy, x -> x.lay(1, 0, 0), NO, EnumSet.noneOf(View.class));
        Supplier<GateTurns> wide = () -> {
            GateTurns x = sticky();
            x.list(2, 5);
            return x;
        };
        View.onlyChanges("lay(0, 2, 1)", wide, x -> x.lay(0, 2, 1), 4, EnumSet.of(View.LISTS));
    }

    private static Set<View> deskAnd(View... more) {
        Set<View> all = EnumSet.copyOf(View.DESK);
        for (View view : more) {
            all.add(view);
        }
        return all;
    }

    /** Terms, answers: "THE TAPE is empty behind each call that reads it." */
    private static void onlyProgramReadsTheTape() {
        Supplier<GateTurns> fed = () -> {
            GateTurns x = busy();
            x.restart();
            return x;
        };
        View.onlyChanges("program(0)", fed, x -> x.program(0), 2, EnumSet.of(View.TAPE, View.PROGRAMS, View.RUNS));
        GateTurns x = fed.get();
        x.program(0);
        due("THE TAPE behind it", x.told(1), 0);
        View.onlyChanges("clear()", Refusals::busy, y -> y.clear(), 13, EnumSet.of(View.TAPE));
        View.onlyChanges("feed(32)", Refusals::busy, y -> y.feed(32), 14, EnumSet.of(View.TAPE));
    }

    /** Terms 3: "THE IMAGE: all of 1, who took the latest STEP (CONDITIONS, LISTS, THE TAPE, TROUBLE, REASONS, LEFT aren't
     * in it)." */
    private static void whatOtherCallsChange() {
        View.onlyChanges("restart()", Refusals::busy, x -> x.restart(), 4, View.DESK);
        View.onlyChanges("put(0, 5)", Refusals::busy, x -> x.put(0, 5), 0, EnumSet.of(View.CELLS, View.RUNS));
        View.onlyChanges("missing(2, false)", Refusals::busy, x -> x.missing(2, false), 1,
                EnumSet.of(View.MONITORS, View.RUNS));
        View.onlyChanges("task()", Refusals::filled, x -> x.task(), 3, EnumSet.of(View.TASKS, View.RUNS));
        View.onlyChanges("step(1)", Refusals::busy, x -> x.step(1), 0, View.DESK);
        View.onlyChanges("run(0, 1)", Refusals::busy, x -> x.run(0, 1), 1, View.DESK);
        View.onlyChanges("follow(0, 1, 2)", Refusals::busy, x -> x.follow(0, 1, 2), 1, View.DESK);
        View.onlyChanges("run(0, 40)", Refusals::busy, x -> x.run(0, 40), 5, View.DESK);
        View.onlyChanges("condition", Refusals::busy, x -> x.condition(0, 0, 5), 3,
                EnumSet.of(View.CONDITIONS, View.RUNS));
        View.onlyChanges("no condition", Refusals::filled, x -> x.condition(-1, 0, 5), 0,
                EnumSet.of(View.CONDITIONS, View.RUNS));
        View.onlyChanges("list(2, 9)", Refusals::busy, x -> x.list(2, 9), 1, EnumSet.of(View.LISTS));
        View.onlyChanges("set(0, 0, 9)", Refusals::busy, x -> x.set(0, 0, 9), 1, EnumSet.of(View.LISTS));
        View.onlyChanges("image()", Refusals::busy, x -> x.image(), 4,
                EnumSet.of(View.IMAGE, View.PROGRAMS_OF_IMAGE));
        View.onlyChanges("back()", Refusals::busy, x -> x.back(), 4, deskAnd(View.PROGRAMS));
        Supplier<GateTurns> breaks = () -> with("leave 0", "");
        View.onlyChanges("a STEP that breaks", breaks, x -> x.step(0), 4, deskAnd(View.TROUBLE));
    }

    public static void main(String[] args) throws ReflectiveOperationException {
        runAll(Refusals.class);
    }
}
