/** The bounds that part 1 of the document's Terms names: each check on the bound, and a step to each side of it. */
public final class BoundsOfTerms1 extends Checks {

    /** Terms 1: "2, each there, or MISSING (there at first)." */
    private static void monitorsAre0To2() {
        int[] monitors = {-1, 0, 1, 2, 3};
        int[] is = {NONE, 0, 0, 0, NONE};
        for (int k = 0; k < 5; k++) {
            GateTurns x = with("");
            int m = monitors[k];
            due("gate(" + m + ", 4)", x.gate(m, 4), is[k]);
            due("under(" + m + ")", x.under(m), is[k]);
            due("missing(" + m + ", true)", x.missing(m, true), is[k]);
            due("missing(" + m + ", false)", x.missing(m, false), is[k] == 0 ? 1 : NONE);
            due("gate(" + m + ", 4) again", x.gate(m, 4), is[k]);
        }
        due("enter 2", read(with(""), 0, "enter 2"), 1);
        due("enter 3", read(with(""), 0, "enter 3"), -106);
    }

    /** Terms 1: "CELLS 0 .. 3, each -99 .. 99 (0 at first)." */
    private static void cellsAre0To3() {
        GateTurns x = with("");
        int[] cells = {-1, 0, 3, 4};
        int[] is = {NO_SUCH, 0, 0, NO_SUCH};
        for (int k = 0; k < 4; k++) {
            due("cell(" + cells[k] + ")", x.cell(cells[k]), is[k]);
            due("put(" + cells[k] + ", 0)", x.put(cells[k], 0), is[k]);
        }
        due("set 3 1", read(x, 0, "set 3 1"), 1);
        due("set 4 1", read(x, 0, "set 4 1"), -104);
    }

    /** Terms 1: "CELLS 0 .. 3, each -99 .. 99 (0 at first)." */
    private static void cellsHoldMinus99To99() {
        for (int c = 0; c < 4; c++) {
            GateTurns x = new GateTurns();
            due("at first", x.cell(c), 0);
            int[] values = {-98, -99, -100, 98, 99, 100};
            int[] was = {0, -98, NO_SUCH, -99, 98, NO_SUCH};
            for (int k = 0; k < 6; k++) {
                due("put(" + c + ", " + values[k] + ")", x.put(c, values[k]), was[k]);
            }
            due("the last that could be", x.cell(c), 99);
        }
    }

    /** Terms 1: "TASKS, 4 at most, from 0 on" */
    private static void tasksAreFourAtMost() {
        GateTurns x = new GateTurns();
        due("of(0, 0) of no task", x.of(0, 0), NONE);
        for (int t = 0; t < 4; t++) {
            due("task()", x.task(), t);
            due("the latest is there", x.of(t, 0), 0);
            due("the next isn't", x.of(t + 1, 0), NONE);
            due("told(0)", x.told(0), t + 1);
        }
        due("a fifth", x.task(), FULL);
        due("told(0)", x.told(0), 4);
        due("of(-1, 0)", x.of(-1, 0), NONE);
    }

    /** Terms 1: "each a PROGRAM (none at first: of 0 STATEMENTS)" */
    private static void noProgramAtFirst() {
        GateTurns x = with("");
        due("no statement 0", x.statement(0, 0, 0), NO_SUCH);
        due("at once DONE", x.step(0), 3);
        GateTurns y = with("all 0");
        due("statement 0", y.statement(0, 0, 0), 4);
        due("no statement 1", y.statement(0, 1, 0), NO_SUCH);
    }

    /** Terms 1: "a PLACE in it (0 .. as many as it has; 0 at first)" */
    private static void placeIs0ToAsManyAsItHas() {
        GateTurns x = with("set 0 1;set 0 2", "");
        for (int place = 0; place < 2; place++) {
            due("place", x.of(0, 1), place);
            due("a statement's step", x.step(0), 0);
        }
        due("as many as it has", x.of(0, 1), 2);
        due("done", x.step(0), 3);
        due("it stays so", x.of(0, 1), 2);
        due("of none", x.of(1, 1), 0);
        due("done", x.step(1), 3);
        due("it stays 0", x.of(1, 1), 0);
    }

    /** Terms 1: "a STATUS: 0 READY (at first), 1 BLOCKED, 2 WAITING, 3 DONE, 4 BROKEN; a SAVED number (0 at first)." */
    private static void statusIs0To4() {
        GateTurns x = with("enter 0", "enter 0", "enter 1;wait 1", "leave 0");
        due("all READY at first", x.are(0), 15);
        for (int t = 0; t < 4; t++) {
            due("SAVED at first", x.of(t, 2), 0);
        }
        due("READY", x.step(0), 0);
        due("BLOCKED", x.step(1), 1);
        steps(x, 2);
        due("WAITING", x.step(2), 2);
        due("BROKEN", x.step(3), 4);
        int[] bits = {NONE, 1, 2, 4, 0, 8, NONE};
        for (int status = -1; status <= 5; status++) {
            due("are(" + status + ")", x.are(status), bits[status + 1]);
        }
        due("DONE", x.step(0), 3);
        due("are(3)", x.are(3), 1);
    }

    /** Terms 1: "A MONITOR has an OWNER (a TASK, or none; none at first), a COUNT (0 at first), an ENTRY row and a WAIT
     * row of TASKS (empty at first)." */
    private static void monitorsAtFirst() {
        GateTurns x = with("enter 1");
        for (int m = 0; m < 3; m++) {
            int[] is = {NO, 0, 0, 0, 0};
            for (int what = 0; what < 5; what++) {
                due("gate(" + m + ", " + what + ")", x.gate(m, what), is[what]);
            }
            dueText("ENTRY", row(x, m, 0), "");
            dueText("WAIT", row(x, m, 1), "");
        }
        steps(x, 0);
        due("TASK 0 is an OWNER", x.gate(1, 0), 0);
    }

    /** Terms 1: "N a number 0 .. 99, perhaps with - ahead" */
    private static void numbersAre0To99PerhapsWithMinus() {
        String[] texts = {"0", "1", "98", "99", "-0", "-1", "-98", "-99", "00", "09", "-09"};
        int[] numbers = {0, 1, 98, 99, 0, -1, -98, -99, 0, 9, -9};
        for (int k = 0; k < texts.length; k++) {
            GateTurns x = with("set 2 " + texts[k], "if 2 " + texts[k] + " 7", "add 2 " + texts[k]);
            for (int t = 0; t < 3; t++) {
                due("N " + texts[k], x.statement(t, 0, 2), numbers[k]);
            }
            steps(x, 0);
            due("set 2 " + texts[k], x.cell(2), numbers[k]);
        }
        due("100", read(with(""), 0, "set 2 100"), -108);
        due("-100", read(with(""), 0, "set 2 -100"), -109);
    }

    /** Terms 1: "jump K (K 0 .. 12: a place in the PROGRAM)" */
    private static void kIs0To12() {
        String[] texts = {"-1", "0", "1", "11", "12", "13", "20"};
        int[] is = {-1, 0, 1, 11, 12, -1, -1};
        for (int k = 0; k < texts.length; k++) {
            GateTurns x = with("", "");
            due("jump " + texts[k], read(x, 0, "jump " + texts[k]), is[k] < 0 ? -105 : 1);
            due("its K", x.statement(0, 0, 1), is[k] < 0 ? NO_SUCH : is[k]);
            due("if 0 0 " + texts[k], read(x, 1, "if 0 0 " + texts[k]), is[k] < 0 ? -107 : 1);
            due("its K", x.statement(1, 0, 3), is[k] < 0 ? NO_SUCH : is[k]);
        }
    }

    /** Terms 1: "A STEP of a READY TASK does the STATEMENT at its PLACE; its PLACE is 1 more first" */
    private static void placeIsOneMore() {
        GateTurns x = with("enter 0;enter 0;notify 0;all 0;add 0 1;set 0 0;if 0 0 0;leave 0;wait 0", "enter 0");
        for (int place = 1; place <= 8; place++) {
            due("a step", x.step(0), 0);
            due("place", x.of(0, 1), place);
        }
        due("who blocks", x.step(1), 1);
        due("has gone on, too", x.of(1, 1), 1);
        due("who waits", x.step(0), 2);
        due("has gone on, too", x.of(0, 1), 9);
    }

    /** Terms 1: "enter: MISSING: BREAKS (1)." */
    private static void enterWhatIsMissing() {
        GateTurns x = with("enter 1", "enter 1", "enter 0", "enter 2");
        x.missing(1, true);
        due("it breaks", x.step(0), 4);
        due("reason", x.of(0, 4), 1);
        due("nobody owns it", x.gate(1, 0), NO);
        due("the one below is there", x.step(2), 0);
        due("the one above is there", x.step(3), 0);
        x.missing(1, false);
        due("there again", x.step(1), 0);
        due("it owns it", x.gate(1, 0), 1);
    }

    /** Terms 1: "The MONITOR has no OWNER: it is that, COUNT is 1." */
    private static void enterWhatNobodyOwns() {
        GateTurns x = with("", "", "", "enter 2;leave 2");
        due("the last task", x.step(3), 0);
        due("OWNER", x.gate(2, 0), 3);
        due("COUNT", x.gate(2, 1), 1);
        due("no row", x.gate(2, 2), 0);
        due("SAVED", x.of(3, 2), 0);
        due("bits", x.of(3, 6), 4);
        steps(x, 3);
        due("none again", x.gate(2, 0), NO);
    }

    /** Terms 1: "It is the OWNER: COUNT is 1 more; were it 10, it BREAKS (3; COUNT was 9 till it is FREED)." */
    private static void enterNineTimes() {
        GateTurns x = with("enter 0;jump 0", "enter 0");
        for (int count = 1; count <= 9; count++) {
            due("enter", x.step(0), 0);
            due("COUNT", x.gate(0, 1), count);
            due("jump", x.step(0), 0);
        }
        steps(x, 1);
        due("a tenth time", x.step(0), 4);
        due("reason", x.of(0, 4), 3);
        due("place", x.of(0, 1), 0);
        due("freed for the next", x.gate(0, 0), 1);
        due("whose COUNT is its own", x.gate(0, 1), 1);
        GateTurns y = with("enter 0;jump 0");
        due("to the end", y.run(0, 40), 19);
        due("nobody behind it", y.gate(0, 0), NO);
        due("COUNT", y.gate(0, 1), 0);
    }

    /** Terms 1: "It is the OWNER: COUNT is 1 more; were it 10, it BREAKS (3; COUNT was 9 till it is FREED)." */
    private static void nineByWhatWasSaved() {
        String nine = "enter 0;if 0 1 4;wait 0;enter 0;add 1 1;if 1 9 0;set 0 1;jump 1";
        GateTurns x = with(nine, "enter 0;notify 0;leave 0");
        x.run(0, 40);
        due("it waits", x.of(0, 0), 2);
        due("SAVED", x.of(0, 2), 9);
        steps(x, 1, 1, 1);
        due("COUNT is 9 again", x.gate(0, 1), 9);
        due("a tenth", x.step(0), 4);
        due("reason", x.of(0, 4), 3);
    }

    /** Terms 1: "Else it is BLOCKED: it stands last in ENTRY, its SAVED is 1." */
    private static void enterWhatAnotherOwns() {
        GateTurns x = with("enter 0", "enter 0;enter 0", "enter 0", "enter 0");
        steps(x, 1, 1);
        String[] rows = {"3", "30", "302"};
        int[] who = {3, 0, 2};
        for (int k = 0; k < 3; k++) {
            due("BLOCKED", x.step(who[k]), 1);
            dueText("ENTRY", row(x, 0, 0), rows[k]);
            due("how many", x.gate(0, 2), k + 1);
            due("SAVED", x.of(who[k], 2), 1);
            due("OWNER", x.gate(0, 0), 1);
            due("COUNT", x.gate(0, 1), 2);
        }
    }

    /** Terms 1: "leave: not the OWNER (or MISSING: 1): BREAKS (2)." */
    private static void leaveWhatOneDoesNotOwn() {
        notTheOwner("leave", 0);
    }

    /** Terms 1: "wait: not the OWNER (MISSING: 1): BREAKS (2)." */
    private static void waitWhereOneDoesNotOwn() {
        notTheOwner("wait", 2);
    }

    /** Terms 1: "notify: not the OWNER (MISSING: 1): BREAKS (2)." */
    private static void notifyWhereOneDoesNotOwn() {
        notTheOwner("notify", 0);
    }

    /** Terms 1: "all: likewise, all of WAIT in order." */
    private static void allWhereOneDoesNotOwn() {
        notTheOwner("all", 0);
    }

    /** None owns it, another does, it is MISSING, another one is owned: BREAKS; the OWNER: doesn't. */
    private static void notTheOwner(String word, int statusOfTheOwner) {
        GateTurns x = with(word + " 1", "enter 1;" + word + " 1", "enter 0;" + word + " 1", word + " 2");
        x.missing(2, true);
        due(word + " of none's", x.step(0), 4);
        due("reason", x.of(0, 4), 2);
        due(word + " of a MISSING one", x.step(3), 4);
        due("reason", x.of(3, 4), 1);
        steps(x, 1, 2);
        due(word + " of another's", x.step(2), 4);
        due("reason", x.of(2, 4), 2);
        due("place", x.of(2, 1), 1);
        due("OWNER stays", x.gate(1, 0), 1);
        due("COUNT stays", x.gate(1, 1), 1);
        due(word + " of its own", x.step(1), statusOfTheOwner);
        due("reason", x.of(1, 4), 0);
    }

    /** Terms 1: "COUNT is 1 less; if it is 0, the MONITOR is FREED." */
    private static void leaveTillNone() {
        GateTurns x = with("enter 2;enter 2;enter 2;leave 2;leave 2;leave 2;leave 2", "enter 2");
        steps(x, 0, 0, 0, 1);
        for (int count = 2; count >= 1; count--) {
            due("leave", x.step(0), 0);
            due("COUNT", x.gate(2, 1), count);
            due("OWNER", x.gate(2, 0), 0);
            due("the other stands", x.of(1, 0), 1);
        }
        due("leave", x.step(0), 0);
        due("the next owns", x.gate(2, 0), 1);
        due("its COUNT", x.gate(2, 1), 1);
        due("once more breaks", x.step(0), 4);
        due("reason", x.of(0, 4), 2);
    }

    /** Terms 1: "It is WAITING, last in WAIT, its SAVED is COUNT; the MONITOR is FREED." */
    private static void waitSavesTheCount() {
        for (int count = 1; count <= 9; count++) {
            String enters = times(count, "enter 1") + ";wait 1";
            GateTurns x = with(enters, "enter 1;wait 1");
            x.run(0, count);
            steps(x, 1);
            due("WAITING", x.step(0), 2);
            due("SAVED", x.of(0, 2), count);
            due("where", x.of(0, 3), 1);
            due("freed to the next", x.gate(1, 0), 1);
            due("its COUNT", x.gate(1, 1), 1);
            steps(x, 1);
            dueText("WAIT", row(x, 1, 1), "01");
            due("freed to none", x.gate(1, 0), NO);
            due("COUNT", x.gate(1, 1), 0);
        }
    }

    /** Terms 1: "The first of WAIT, if any, is BLOCKED and stands last in ENTRY." */
    private static void notifyNoneOneTwo() {
        String waits = "enter 0;wait 0";
        GateTurns x = with("enter 0;notify 0;notify 0;notify 0", waits, waits, "enter 0");
        steps(x, 2, 2, 1, 1, 0, 3);
        dueText("WAIT", row(x, 0, 1), "21");
        dueText("ENTRY", row(x, 0, 0), "3");
        steps(x, 0);
        dueText("one is left in WAIT", row(x, 0, 1), "1");
        dueText("last in ENTRY", row(x, 0, 0), "32");
        due("BLOCKED", x.of(2, 0), 1);
        due("SAVED stays", x.of(2, 2), 1);
        due("the other waits", x.of(1, 0), 2);
        steps(x, 0);
        dueText("none is left in WAIT", row(x, 0, 1), "");
        dueText("last in ENTRY", row(x, 0, 0), "321");
        due("of none: nothing", x.step(0), 0);
        dueText("ENTRY", row(x, 0, 0), "321");
        due("the notifier still owns", x.gate(0, 0), 0);
    }

    /** Terms 1: "all: likewise, all of WAIT in order." */
    private static void allOfNoneOneThree() {
        String waits = "enter 0;enter 0;wait 0";
        String[] texts = {"enter 0;all 0", waits, waits, waits};
        int[][] who = {{}, {3}, {3, 1}, {3, 1, 2}};
        String[] rows = {"", "3", "31", "312"};
        for (int n = 0; n <= 3; n++) {
            GateTurns x = with(texts);
            for (int t : who[n]) {
                steps(x, t, t, t);
            }
            steps(x, 0);
            dueText("WAIT", row(x, 0, 1), rows[n]);
            due("all", x.step(0), 0);
            dueText("WAIT behind all", row(x, 0, 1), "");
            dueText("ENTRY behind all", row(x, 0, 0), rows[n]);
            due("so many are BLOCKED", Integer.bitCount(x.are(1)), n);
            due("none is WAITING", x.are(2), 0);
            due("the OWNER", x.gate(0, 0), 0);
        }
    }

    /** Terms 1: "all: likewise, all of WAIT in order." */
    private static void allStandLast() {
        GateTurns x = with("enter 0;all 0", "enter 0;wait 0", "enter 0;wait 0", "enter 0");
        steps(x, 2, 2, 1, 1, 0, 3, 0);
        dueText("ENTRY", row(x, 0, 0), "321");
    }

    /** Terms 1: "add: CELL V is N more; would it be outside -99 .. 99, it BREAKS (4)." */
    private static void addWithin99() {
        int[][] sums = {{98, 1}, {99, 0}, {99, 1}, {98, 2}, {0, 99}, {1, 99}, {99, 99}, {-99, 99},
            {-98, -1}, {-99, 0}, {-99, -1}, {-98, -2}, {0, -99}, {-1, -99}, {-99, -99}, {99, -99}};
        for (int[] s : sums) {
            GateTurns x = with("add 3 " + s[1]);
            x.put(3, s[0]);
            int sum = s[0] + s[1];
            boolean within = sum >= -99 && sum <= 99;
            due(s[0] + " and " + s[1], x.step(0), within ? 0 : 4);
            due("the cell", x.cell(3), within ? sum : s[0]);
            due("reason", x.of(0, 4), within ? 0 : 4);
            due("place", x.of(0, 1), within ? 1 : 0);
        }
    }

    /** Terms 1: "set: CELL V is N." */
    private static void setUpTo99() {
        for (int n : new int[] {-99, -98, -1, 0, 1, 98, 99}) {
            for (int was : new int[] {-99, 0, 99}) {
                GateTurns x = with("set 0 " + n);
                x.put(0, was);
                x.put(1, was);
                due("set", x.step(0), 0);
                due("the cell", x.cell(0), n);
                due("the one behind it", x.cell(1), was);
            }
        }
    }

    /** Terms 1: "if: is CELL V not N, its PLACE is K." */
    private static void ifIsOrIsNot() {
        for (int n : new int[] {-99, 0, 99}) {
            for (int is = Math.max(n - 1, -99); is <= Math.min(n + 1, 99); is++) {
                GateTurns x = with("if 1 " + n + " 3;set 0 1;set 0 2;set 0 3");
                x.put(1, is);
                steps(x, 0);
                due("if it is " + is, x.of(0, 1), is == n ? 1 : 3);
                due("the cell stays", x.cell(1), is);
            }
        }
    }

    /** Terms 1: "jump: its PLACE is K." */
    private static void jumpAnywhere() {
        for (int k = 0; k <= 3; k++) {
            GateTurns x = with("set 0 1;jump " + k + ";set 0 2");
            steps(x, 0, 0);
            due("back, to itself, on, to the end", x.of(0, 1), k);
        }
    }

    /** Terms 1: "Is a K more than the PROGRAM has STATEMENTS, its PLACE is as many as it has." */
    private static void placesBeyondTheProgram() {
        int[] ks = {1, 2, 3, 12};
        int[] places = {1, 2, 2, 2};
        for (int i = 0; i < 4; i++) {
            GateTurns x = with("jump " + ks[i] + ";jump 0", "if 0 1 " + ks[i] + ";jump 0");
            steps(x, 0, 1);
            due("jump " + ks[i], x.of(0, 1), places[i]);
            due("if 0 1 " + ks[i], x.of(1, 1), places[i]);
            due("a step behind it", x.step(0), ks[i] == 1 ? 0 : 3);
        }
        GateTurns y = with(times(11, "set 0 0") + ";jump 12");
        y.run(0, 12);
        due("twelve of twelve", y.of(0, 1), 12);
        due("the end", y.step(0), 3);
        GateTurns z = with("jump 11;" + times(11, "set 0 0"));
        steps(z, 0);
        due("eleven of twelve", z.of(0, 1), 11);
        due("not the end", z.step(0), 0);
        due("the end", z.step(0), 3);
    }

    /** Terms 1: "Behind the last STATEMENT (PLACE as many as it has) a STEP makes it DONE." */
    private static void behindTheLast() {
        for (int n : new int[] {0, 1, 2, 12}) {
            GateTurns x = with(times(n, "add 0 1"));
            for (int k = 0; k < n; k++) {
                due("not yet", x.step(0), 0);
            }
            due("DONE", x.step(0), 3);
            due("place", x.of(0, 1), n);
            due("each was done once", x.cell(0), n);
            due("no further step", x.step(0), STATE);
        }
    }

    /** Terms 1: "then, if ENTRY isn't empty, the first of it leaves it: it is the OWNER, COUNT is its SAVED, its SAVED is
     * 0, it is READY." */
    private static void freedToNoneOneTwo() {
        GateTurns x = with("enter 0;leave 0", "enter 0;leave 0", "enter 0;leave 0");
        steps(x, 0, 2, 1);
        dueText("two stand", row(x, 0, 0), "21");
        int[] owners = {2, 1, NO};
        String[] rows = {"1", "", ""};
        int[] who = {0, 2, 1};
        for (int k = 0; k < 3; k++) {
            steps(x, who[k]);
            due("OWNER", x.gate(0, 0), owners[k]);
            due("COUNT", x.gate(0, 1), k < 2 ? 1 : 0);
            dueText("ENTRY", row(x, 0, 0), rows[k]);
            due("READY", x.of(owners[k], 0), k < 2 ? 0 : NONE);
            due("SAVED", x.of(owners[k], 2), k < 2 ? 0 : NONE);
            due("where", x.of(owners[k], 3), k < 2 ? NO : NONE);
        }
    }

    /** Terms 1: "FREED: no OWNER, COUNT 0" */
    private static void freedThoughOneWaits() {
        GateTurns x = with("enter 0;wait 0", "enter 0;leave 0");
        steps(x, 0, 0, 1, 1);
        due("no OWNER", x.gate(0, 0), NO);
        due("COUNT", x.gate(0, 1), 0);
        dueText("who waits isn't let in", row(x, 0, 1), "0");
        due("and isn't READY", x.of(0, 0), 2);
    }

    /** Terms 1: "Who BREAKS is BROKEN; its PLACE stays (that of the STATEMENT)." */
    private static void brokenAtAnyPlace() {
        for (int at : new int[] {0, 1, 11}) {
            String text = (at == 0 ? "" : times(at, "set 0 0") + ";") + "leave 0" + (at == 11 ? "" : ";set 0 1");
            GateTurns x = with(text);
            x.run(0, at);
            due("it breaks", x.step(0), 4);
            due("place", x.of(0, 1), at);
            due("status", x.of(0, 0), 4);
            due("no further step", x.step(0), STATE);
        }
    }

    /** Terms 1: "Whoever becomes DONE or BROKEN: all MONITORS it owns are FREED then, by numbers (that doesn't change who
     * stands in WAIT)." */
    private static void endsWithNoneToThree() {
        String[] enters = {"", "enter 1", "enter 1;enter 0;enter 1", "enter 1;enter 0;enter 2;enter 2"};
        int[] steps = {0, 1, 3, 4};
        for (int owned = 0; owned <= 3; owned++) {
            for (String last : new String[] {"", "add 0 99"}) {
                String text = enters[owned] + (owned > 0 && !last.isEmpty() ? ";" : "") + last;
                GateTurns x = with("enter 1;wait 1", text, "enter 1", "enter 2");
                x.put(0, 1);
                steps(x, 0, 0);
                for (int k = 0; k < steps[owned]; k++) {
                    steps(x, 1);
                }
                steps(x, 2, 3);
                due("it owns", Integer.bitCount(x.of(1, 6)), owned);
                due("it ends", x.step(1), last.isEmpty() ? 3 : 4);
                due("it owns none", x.of(1, 6), 0);
                due("LEFT", x.of(1, 5), last.isEmpty() ? owned : 0);
                due("REASON", x.of(1, 4), last.isEmpty() ? 0 : 4);
                due("nobody stands at 0", x.gate(0, 0), NO);
                due("who stood at 1 owns it", x.gate(1, 0), 2);
                due("who stood at 2 owns it", x.gate(2, 0), 3);
                due("none is BLOCKED", x.are(1), 0);
                dueText("WAIT", row(x, 1, 1), "0");
            }
        }
    }

    /** Terms 1: "REASON of a BROKEN one: the number told above." */
    private static void reasonsAre1To4() {
        String[] texts = {"set 0 1", "enter 2", "leave 1", "enter 0;jump 0", "add 0 99;jump 0"};
        for (int reason = 0; reason <= 4; reason++) {
            GateTurns x = with(texts[reason]);
            x.missing(2, true);
            x.run(0, 40);
            due("status", x.of(0, 0), reason == 0 ? 3 : 4);
            due("reason", x.of(0, 4), reason);
            due("LEFT", x.of(0, 5), 0);
        }
    }

    /** Terms 1: "LEFT: of one that is DONE: how many MONITORS it owned then." */
    private static void leftIs0To3() {
        String[] texts = {"set 0 1", "enter 0", "enter 0;enter 2", "enter 0;enter 1;enter 2"};
        for (int left = 0; left <= 3; left++) {
            GateTurns x = with(texts[left]);
            x.run(0, Math.max(left, 1));
            due("not DONE yet", x.of(0, 5), 0);
            due("DONE", x.step(0), 3);
            due("LEFT", x.of(0, 5), left);
            due("it stays, though it owns none", x.of(0, 6), 0);
        }
        GateTurns often = with("enter 0;enter 0;enter 0");
        often.run(0, 4);
        due("one, however often", often.of(0, 5), 1);
    }

    public static void main(String[] args) throws ReflectiveOperationException {
        runAll(BoundsOfTerms1.class);
    }
}
