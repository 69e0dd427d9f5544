/** The bounds that promises 20 to 32 name, and those of LISTS, THE IMAGE and the answers in part 3 of the Terms. */
public final class BoundsOfPromises20To32 extends Checks {
    private static final String[] CROSSED = {"enter 0;enter 1", "enter 1;enter 0"};

    /** Promise 20: "What 0 how many are FOUND, 1 whether all (1, 0), 2 how many STICK, 3 how many are OVER, 4 the greatest
     * DEPTH, 5 DEPTH of STICKING (-5: none), 6 DEPTH of FAILING (-5), 7 OUTCOMES, 8 whether NESTED. NONE." */
    private static void p20Found() {
        GateTurns none = new GateTurns();
        int[] ofNone = {1, 1, 0, 0, 0, NO, NO, 0, 0};
        GateTurns one = with("enter 0;enter 0;wait 0");
        one.condition(0, 1, 5);
        int[] ofOne = {4, 1, 1, 0, 3, 3, 0, 0, 1};
        for (int what = -1; what <= 9; what++) {
            boolean may = what >= 0 && what <= 8;
            due("of none found(" + what + ")", none.found(what), may ? ofNone[what] : NONE);
            due("of one found(" + what + ")", one.found(what), may ? ofOne[what] : NONE);
        }
        due("found(LEAST)", none.found(LEAST), NONE);
        due("found(MOST)", none.found(MOST), NONE);
    }

    /** Promise 21: "The i-th TASK of the SCHEDULE of STICKING (what 0), FAILING (1). NONE: i, what, there is none such." */
    private static void p21Schedule() {
        GateTurns x = with(CROSSED);
        int[] way = {0, 1, 0, 1};
        for (int i = -1; i <= 4; i++) {
            due("schedule(0, " + i + ")", x.schedule(0, i), i >= 0 && i < 4 ? way[i] : NONE);
            due("schedule(1, " + i + ")", x.schedule(1, i), NONE);
            due("schedule(-1, " + i + ")", x.schedule(-1, i), NONE);
            due("schedule(2, " + i + ")", x.schedule(2, i), NONE);
        }
        for (int far : new int[] {LEAST, MOST}) {
            due("schedule(0, far)", x.schedule(0, far), NONE);
            due("schedule(far, 0)", x.schedule(far, 0), NONE);
        }
        x.condition(0, 1, 0);
        due("none fails", x.schedule(1, 0), NONE);
        x.put(0, 1);
        due("it fails now: of no TASKS", x.schedule(1, 0), NONE);
        x.put(0, 0);
        x.condition(1, 1, 0);
        read(x, 1, "enter 1;set 1 3;enter 0");
        int[] fails = {1, 1};
        for (int i = -1; i <= 2; i++) {
            due("schedule(1, " + i + ")", x.schedule(1, i), i >= 0 && i < 2 ? fails[i] : NONE);
            due("schedule(2, " + i + ")", x.schedule(2, i), NONE);
            due("schedule(-1, " + i + ")", x.schedule(-1, i), NONE);
        }
        read(x, 1, "enter 1;enter 0");
        steps(x, 0, 1, 0);
        due("one is left", x.schedule(0, 0), 1);
        due("no second", x.schedule(0, 1), NONE);
    }

    /** Promise 22: "That SCHEDULE is laid into a LIST from i on: how many TASKS it has." */
    private static void p22Lay() {
        for (int size = 3; size <= 6; size++) {
            for (int i = 0; i <= size + 1; i++) {
                GateTurns x = with(CROSSED);
                x.list(1, size);
                for (int k = 0; k < size; k++) {
                    x.set(1, k, 9);
                }
                due("of " + size + " from " + i, x.lay(0, 1, i), i + 4 <= size ? 4 : BEYOND);
                for (int k = 0; k < size; k++) {
                    int want = k < i || k >= i + 4 ? 9 : (k - i) % 2;
                    due("of " + size + " from " + i + ", place " + k, x.get(1, k), want);
                }
            }
        }
    }

    /** Promise 22: "That SCHEDULE is laid into a LIST from i on: how many TASKS it has." */
    private static void p22NoneOneTwo() {
        for (int length = 0; length <= 2; length++) {
            for (int size = 0; size <= 3; size++) {
                GateTurns x = with("", "add 0 1;add 0 1");
                x.condition(0, 0, length);
                x.list(0, size);
                due(length + " into " + size, x.lay(1, 0, 0), length <= size ? length : BEYOND);
                for (int k = 0; k < size; k++) {
                    due("place " + k, x.get(0, k), k < length ? 1 : 0);
                }
            }
        }
    }

    /** Promise 22: "NONE: list, what; NOTHING; -5: there is none such; BEYOND: not all were" */
    private static void p22WhichIsToldFirst() {
        GateTurns x = with(CROSSED);
        for (int list : new int[] {LEAST, -1, 4, MOST}) {
            due("lay(0, list, -1)", x.lay(0, list, -1), NONE);
        }
        for (int what : new int[] {LEAST, -1, 2, MOST}) {
            due("lay(what, 0, -1)", x.lay(what, 0, -1), NONE);
        }
        for (int list = 0; list < 4; list++) {
            due("nothing there", x.lay(0, list, -1), NOTHING);
            due("nothing there, nor such a SCHEDULE", x.lay(1, list, -1), NOTHING);
            x.list(list, 3);
            due("no such SCHEDULE", x.lay(1, list, 0), NO);
            due("a place too few", x.lay(0, list, 0), BEYOND);
            x.list(list, 4);
            due("just so many", x.lay(0, list, 0), 4);
        }
        x.list(0, 0);
        due("no place", x.lay(0, 0, 0), BEYOND);
        due("no such SCHEDULE", x.lay(1, 0, 0), NO);
    }

    /** Promise 22: "BEYOND: not all were (those that had a place are there all the same; none, if i is below 0; a SCHEDULE
     * of no TASKS is laid whatever i: 0)." */
    private static void p22BelowAndNoTasks() {
        GateTurns x = with(CROSSED);
        x.list(0, 8);
        for (int k = 0; k < 8; k++) {
            x.set(0, k, 9);
        }
        for (int i : new int[] {-1, -2, -4, LEAST, 8, 9, MOST}) {
            due("lay(0, 0, " + i + ")", x.lay(0, 0, i), BEYOND);
            for (int k = 0; k < 8; k++) {
                due("none is laid", x.get(0, k), 9);
            }
        }
        due("the last place", x.lay(0, 0, 7), BEYOND);
        due("one is laid", x.get(0, 7), 0);
        steps(x, 0, 1, 0, 1);
        x.list(1, 0);
        for (int i : new int[] {LEAST, -1, 0, 1, 8, 9, MOST}) {
            due("of no TASKS", x.lay(0, 0, i), 0);
            due("of no TASKS, into an empty row", x.lay(0, 1, i), 0);
            due("nothing there", x.lay(0, 2, i), NOTHING);
        }
        due("place 0", x.get(0, 0), 9);
    }

    /** Promise 22: "That SCHEDULE is laid into a LIST from i on: how many TASKS it has." */
    private static void p22FortyAndMore() {
        // from 0 on 20 are added, with 19 jumps between: 39 STEPS; from -1 on two more, one of which may be taken ahead
        for (int length = 39; length <= 41; length++) {
            GateTurns x = with("add 0 1;jump 0");
            x.condition(0, 0, 20);
            x.put(0, length == 39 ? 0 : -1);
            x.run(0, length == 40 ? 1 : 0);
            due("its length", x.found(6), length);
            x.list(0, 40);
            x.set(0, 39, 9);
            due("lay", x.lay(1, 0, 0), length <= 40 ? length : BEYOND);
            due("the last place", x.get(0, 39), length >= 40 ? 0 : 9);
        }
    }

    /** Promise 23: "A CELL in the k-th of OUTCOMES. -100: no such." */
    private static void p23Outcome() {
        GateTurns x = with("set 0 -99;set 3 1", "set 0 99");
        int[][] is = {{99, 0, 0, 1}, {-99, 0, 0, 1}};
        for (int k = -1; k <= 2; k++) {
            for (int c = -1; c <= 4; c++) {
                boolean there = k >= 0 && k < 2 && c >= 0 && c < 4;
                due("outcome(" + k + ", " + c + ")", x.outcome(k, c), there ? is[k][c] : NO_SUCH);
            }
        }
        for (int far : new int[] {LEAST, MOST}) {
            due("outcome(far, 0)", x.outcome(far, 0), NO_SUCH);
            due("outcome(0, far)", x.outcome(0, far), NO_SUCH);
        }
        due("of no TASK", new GateTurns().outcome(0, 0), NO_SUCH);
        due("none is OVER", with("jump 0").outcome(0, 0), NO_SUCH);
    }

    /** Promise 24: "UNDER (bits). NONE." */
    private static void p24Under() {
        GateTurns x = with("enter 2;enter 1;enter 0");
        int[] is = {NONE, 0, 1, 3, NONE};
        for (int m = -1; m <= 3; m++) {
            due("under(" + m + ")", x.under(m), is[m + 1]);
        }
        due("under(LEAST)", x.under(LEAST), NONE);
        due("under(MOST)", x.under(MOST), NONE);
        due("of no TASK", new GateTurns().under(0), 0);
    }

    /** Promise 25: "Whether MONITORS go round by UNDER (one is UNDER another, that UNDER a third one or the first, and so on,
     * back to the one): 1, 0." */
    private static void p25Round() {
        // each set of the six ways from one to another, as tasks that enter two
        int[][] ways = {{0, 1}, {0, 2}, {1, 0}, {1, 2}, {2, 0}, {2, 1}};
        for (int set = 0; set < 64; set++) {
            if (Integer.bitCount(set) > 4) {
                continue;
            }
            GateTurns x = new GateTurns();
            boolean[][] to = new boolean[3][3];
            for (int w = 0; w < 6; w++) {
                if ((set >> w & 1) == 1) {
                    read(x, x.task(), "enter " + ways[w][0] + ";enter " + ways[w][1]);
                    to[ways[w][0]][ways[w][1]] = true;
                }
            }
            boolean two = to[0][1] && to[1][0] || to[0][2] && to[2][0] || to[1][2] && to[2][1];
            boolean three = to[0][1] && to[1][2] && to[2][0] || to[0][2] && to[2][1] && to[1][0];
            due("set " + set, x.round(), two || three ? 1 : 0);
        }
        due("one alone", with("enter 0;enter 0").round(), 0);
        due("of no TASK", new GateTurns().round(), 0);
    }

    /** Promise 26: "A CONDITION comes: how many there are (cell -1: none then, 0, whatever the others are)." */
    private static void p26NoneThen() {
        for (int n = 0; n <= 4; n++) {
            GateTurns x = new GateTurns();
            for (int k = 1; k <= n; k++) {
                due("condition", x.condition(3, 1, 5), k);
            }
            due("it holds", x.holds(), n == 0 ? 1 : 0);
            due("none then", x.condition(-1, n == 4 ? LEAST : 4, n == 3 ? MOST : -100), 0);
            due("told(2)", x.told(2), 0);
            due("it holds", x.holds(), 1);
            due("from one on", x.condition(3, 1, 5), 1);
        }
    }

    /** Promise 26: "NONE: cell, how; BAD: v (-99 .. 99); FULL: four." */
    private static void p26Bounds() {
        GateTurns full = new GateTurns();
        for (int k = 0; k < 4; k++) {
            full.condition(0, 0, 99);
        }
        for (int cell : new int[] {LEAST, -2, 0, 3, 4, MOST}) {
            for (int how : new int[] {LEAST, -1, 0, 3, 4, MOST}) {
                for (int v : new int[] {LEAST, -100, -99, 99, 100, MOST}) {
                    boolean none = cell < 0 || cell > 3 || how < 0 || how > 3;
                    boolean bad = v < -99 || v > 99;
                    String call = "condition(" + cell + ", " + how + ", " + v + ")";
                    due(call, new GateTurns().condition(cell, how, v), none ? NONE : bad ? BAD : 1);
                    due(call + " of four", full.condition(cell, how, v), none ? NONE : bad ? BAD : FULL);
                }
            }
        }
        due("told(2)", full.told(2), 4);
    }

    /** Promise 27: "Whether all CONDITIONS are so now (also if there are none): 1, 0." */
    private static void p27Holds() {
        due("none", new GateTurns().holds(), 1);
        for (int n = 1; n <= 4; n++) {
            for (int wrongOne = -1; wrongOne < n; wrongOne++) {
                GateTurns x = new GateTurns();
                for (int k = 0; k < n; k++) {
                    x.condition(k, 1, k == wrongOne ? 1 : 0);
                }
                due(n + ", of which " + wrongOne + " isn't so", x.holds(), wrongOne < 0 ? 1 : 0);
            }
        }
        GateTurns ends = new GateTurns();
        ends.put(0, 99);
        ends.put(1, -99);
        ends.condition(0, 0, 99);
        due("99 isn't less than 99", ends.holds(), 0);
        ends.condition(-1, 0, 0);
        ends.condition(1, 2, -99);
        due("-99 isn't more than -99", ends.holds(), 0);
    }

    /** Terms 3: "LISTS 0 .. 3 hold nothing (at first) or a row of 0 .. 40 ints." */
    private static void listsAre0To3() {
        GateTurns x = new GateTurns();
        for (int l : new int[] {LEAST, -1, 4, MOST}) {
            due("list(" + l + ", 1)", x.list(l, 1), NONE);
            due("set(" + l + ", 0, 1)", x.set(l, 0, 1), NONE);
            due("get(" + l + ", 0)", x.get(l, 0), NO_PLACE);
        }
        for (int l = 0; l <= 3; l++) {
            due("nothing at first", x.set(l, 0, 1), NOTHING);
            due("nothing at first", x.get(l, 0), NO_PLACE);
            due("list(" + l + ", 1)", x.list(l, 1), 1);
            due("set", x.set(l, 0, 10 + l), 1);
        }
        for (int l = 0; l <= 3; l++) {
            due("each its own", x.get(l, 0), 10 + l);
        }
    }

    /** Promise 28: "A LIST becomes a row of n ints, all 0: 1. NONE: list; BAD: n above 40; BELOW." */
    private static void p28Sizes() {
        for (int n : new int[] {LEAST, -1, 0, 1, 39, 40, 41, MOST}) {
            GateTurns x = new GateTurns();
            int want = n > 40 ? BAD : n < 0 ? BELOW : 1;
            due("list(3, " + n + ")", x.list(3, n), want);
            due("of no such LIST", x.list(4, n), NONE);
            due("of no such LIST", x.list(-1, n), NONE);
            if (want == 1) {
                for (int i = 0; i < n; i++) {
                    due("all 0", x.get(3, i), 0);
                }
                due("no place behind", x.get(3, n), NO_PLACE);
                due("no place behind", x.set(3, n, 1), BEYOND);
            } else {
                due("nothing still", x.set(3, 0, 1), NOTHING);
            }
        }
    }

    /** Promise 28: "A LIST becomes a row of n ints, all 0: 1. NONE: list; BAD: n above 40; BELOW." */
    private static void p28Again() {
        GateTurns x = new GateTurns();
        x.list(0, 40);
        for (int i = 0; i < 40; i++) {
            x.set(0, i, 7);
        }
        x.list(0, 1);
        due("one place", x.get(0, 0), 0);
        due("no second", x.get(0, 1), NO_PLACE);
        x.list(0, 40);
        for (int i = 0; i < 40; i++) {
            due("all 0 again", x.get(0, i), 0);
        }
        x.list(0, 0);
        due("an empty row isn't nothing", x.set(0, 0, 1), BEYOND);
    }

    /** Promise 29: "Place i of a LIST becomes v: 1. NONE; NOTHING; BEYOND." */
    private static void p29Set() {
        for (int size : new int[] {0, 1, 40}) {
            GateTurns x = new GateTurns();
            x.list(1, size);
            for (int i : new int[] {LEAST, -1, 0, size - 1, size, size + 1, MOST}) {
                boolean there = i >= 0 && i < size;
                due("of " + size + " set(1, " + i + ")", x.set(1, i, MOST), there ? 1 : BEYOND);
                due("get(1, " + i + ")", x.get(1, i), there ? MOST : NO_PLACE);
                due("of nothing", x.set(2, i, 1), NOTHING);
                due("of no LIST", x.set(4, i, 1), NONE);
                due("of no LIST", x.set(-1, i, 1), NONE);
            }
        }
        GateTurns y = new GateTurns();
        y.list(0, 3);
        for (int v : new int[] {LEAST, -1000000, -13, 0, MOST}) {
            due("any int", y.set(0, 1, v), 1);
            due("any int", y.get(0, 1), v);
            due("the one ahead", y.get(0, 0), 0);
            due("the one behind", y.get(0, 2), 0);
        }
    }

    /** Promise 30: "Place i of a LIST. -1000000: no such LIST, nothing there, no such place." */
    private static void p30Get() {
        GateTurns x = new GateTurns();
        x.list(3, 40);
        x.set(3, 0, 1);
        x.set(3, 39, 2);
        int[] places = {LEAST, -1, 0, 39, 40, MOST};
        int[] is = {NO_PLACE, NO_PLACE, 1, 2, NO_PLACE, NO_PLACE};
        for (int k = 0; k < places.length; k++) {
            due("get(3, " + places[k] + ")", x.get(3, places[k]), is[k]);
            for (int l : new int[] {LEAST, -1, 0, 2, 4, MOST}) {
                due("get(" + l + ", " + places[k] + ")", x.get(l, places[k]), NO_PLACE);
            }
        }
    }

    /** Promise 31: "THE IMAGE is taken: how many TASKS." */
    private static void p31Image() {
        GateTurns x = new GateTurns();
        for (int n = 0; n <= 4; n++) {
            due("image()", x.image(), n);
            due("back()", x.back(), n);
            x.put(0, n + 1);
            due("task()", x.task(), n < 4 ? n : FULL);
        }
        due("the latest image's", x.back(), 4);
        due("its cell", x.cell(0), 4);
        due("again", x.back(), 4);
    }

    /** Promise 32: "All is as THE IMAGE (REASONS and LEFT are 0): how many TASKS. STATE: there is none." */
    private static void p32Back() {
        GateTurns x = with("leave 1", "enter 2", "enter 0;enter 0;wait 0", "enter 0");
        due("there is none", x.back(), STATE);
        steps(x, 0, 1, 1, 2, 2, 3, 2);
        due("REASON", x.of(0, 4), 2);
        due("LEFT", x.of(1, 5), 1);
        due("image()", x.image(), 4);
        due("REASON stays now", x.of(0, 4), 2);
        due("LEFT stays now", x.of(1, 5), 1);
        x.restart();
        due("back()", x.back(), 4);
        int[][] is = {{4, 0, 0, NO, 0, 0, 0}, {3, 1, 0, NO, 0, 0, 0}, {2, 3, 2, 0, 0, 0, 0}, {0, 1, 0, NO, 0, 0, 1}};
        for (int t = 0; t < 4; t++) {
            for (int what = 0; what < 7; what++) {
                due("of(" + t + ", " + what + ")", x.of(t, what), is[t][what]);
            }
        }
        due("who took the latest STEP", x.told(5), 2);
        dueText("WAIT", row(x, 0, 1), "2");
        due("it goes on", x.step(3), 3);
        due("REASON of a later one", x.of(3, 5), 1);
        due("back() again", x.back(), 4);
        due("LEFT", x.of(3, 5), 0);
    }

    /** Promise 32: "All is as THE IMAGE (REASONS and LEFT are 0): how many TASKS. STATE: there is none." */
    private static void p32MoreOrFewerTasks() {
        GateTurns x = with("set 0 1", "jump 0");
        steps(x, 1);
        x.image();
        x.task();
        read(x, 2, "enter 0;jump 1");
        x.missing(1, true);
        steps(x, 0, 2);
        due("back()", x.back(), 2);
        due("of(2, 0)", x.of(2, 0), NONE);
        due("OWNER", x.gate(0, 0), NO);
        due("there", x.gate(1, 4), 0);
        due("cell(0)", x.cell(0), 0);
        due("the latest", x.told(5), 1);
        due("round from there", x.run(1, 1), 1);
        due("the latest", x.told(5), 0);
        GateTurns y = new GateTurns();
        y.image();
        y.task();
        y.step(0);
        due("to none", y.back(), 0);
        due("nobody", y.told(5), NO);
        due("none is OVER", y.told(4), 0);
        due("task()", y.task(), 0);
        due("READY", y.of(0, 0), 0);
    }

    /** Terms 3: "NOTHING (-11): there is none; BEYOND (-13): no such place; BELOW (-14): a size below 0." */
    private static void numbersOfAnswers() {
        due("NONE", GateTurns.NONE, -1);
        due("BAD", GateTurns.BAD, -2);
        due("STATE", GateTurns.STATE, -3);
        due("FULL", GateTurns.FULL, -4);
        GateTurns x = new GateTurns();
        due("NOTHING", x.set(0, 0, 0), -11);
        due("BELOW", x.list(0, -1), -14);
        x.list(0, 0);
        due("BEYOND", x.set(0, 0, 0), -13);
    }

    /** What it is: "An object is used for at most 512 calls after it has been made; what later calls answer is free." */
    private static void fiveHundredAndTwelveCalls() {
        GateTurns x = new GateTurns();
        x.list(0, 40);
        for (int call = 2; call <= 512; call++) {
            due("call " + call, x.set(0, call % 40, call), 1);
        }
        // what these answer is free, but none of them throws
        for (int call = 513; call <= 1500; call++) {
            x.task();
            x.feed('a');
            x.condition(0, 0, 0);
            x.run(0, 40);
            x.found(0);
            x.program(0);
        }
    }

    /** Terms, answers: "the first that a call's words name (-5 is told only where none of them is)" */
    private static void theFirstNamed() {
        GateTurns x = with(CROSSED);
        steps(x, 0);
        due("missing: NONE ahead of STATE", x.missing(3, true), NONE);
        due("program: NONE ahead of a FAULT", x.program(2), NONE);
        due("program: STATE ahead of a FAULT", x.program(0), STATE);
        due("run: NONE ahead of BAD", x.run(3, 41), NONE);
        due("run: NONE ahead of BAD", x.run(-1, -1), NONE);
        due("follow: NONE ahead of BEYOND", x.follow(4, -1, -1), NONE);
        due("follow: NOTHING ahead of BEYOND", x.follow(3, -1, -1), NOTHING);
        due("lay: NONE ahead of NOTHING", x.lay(2, 3, -1), NONE);
        due("lay: NOTHING ahead of -5", x.lay(1, 3, -1), NOTHING);
        due("list: NONE ahead of BAD", x.list(4, 41), NONE);
        due("list: NONE ahead of BELOW", x.list(4, -1), NONE);
        due("set: NONE ahead of BEYOND", x.set(4, -1, 0), NONE);
        due("set: NOTHING ahead of BEYOND", x.set(3, -1, 0), NOTHING);
        due("condition: NONE ahead of BAD", x.condition(4, 0, 100), NONE);
        due("condition: NONE ahead of BAD", x.condition(0, 4, 100), NONE);
        due("cause: NONE ahead of -5", x.cause(0, 2), NONE);
        due("cause: NONE ahead of -5", x.cause(-1, 0), NONE);
        due("gate: NONE ahead of -5", x.gate(3, 0), NONE);
        due("of: NONE ahead of -5", x.of(2, 3), NONE);
    }

    public static void main(String[] args) throws ReflectiveOperationException {
        runAll(BoundsOfPromises20To32.class);
    }
}
