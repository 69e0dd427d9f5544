/**
 * The bounds that part 2 of the document's Terms names, but for THE TAPE (BoundsOfTape): each check on the bound, and a
 * step to each side of it.
 */
public final class BoundsOfTerms2 extends Checks {

    /** Terms 2: "A STATE: of each TASK PLACE, STATUS, SAVED; of each MONITOR OWNER, COUNT, ENTRY, WAIT in order; CELLS." */
    private static void statesAreUnlikeByAnyOfThese() {
        due("PLACE alone", with("jump 1").found(0), 3);
        due("nothing", with("jump 0").found(0), 1);
        due("CELLS alone", with("if 0 0 2;jump 0;add 0 1;jump 2").found(0), 2);
        GateTurns cells = with("add 3 1;jump 0");
        cells.put(3, 98);
        due("the last CELL", cells.found(0), 4);
        // each order of coming is a STATE of its own, from 0 tasks that stand to 3
        GateTurns rows = with("enter 0;wait 0", "enter 0;wait 0");
        due("WAIT in order", rows.found(2), 2);
        GateTurns three = with("enter 0;wait 0", "enter 0;wait 0", "enter 0;wait 0");
        due("WAIT in order, three", three.found(2), 6);
        GateTurns entry = with("enter 0", "enter 0", "enter 0;jump 1");
        steps(entry, 2);
        due("ENTRY in order: none, 0, 1, 0 1, 1 0", entry.found(0), 5);
        GateTurns four = with("enter 0", "enter 0", "enter 0", "enter 0;jump 1");
        steps(four, 3);
        due("ENTRY in order, three", four.found(0), 1 + 3 + 6 + 6);
        for (int saved = 7; saved <= 9; saved++) {
            // what is SAVED comes back as COUNT: from 9 on one more enter breaks, and the last STATEMENT is never done
            GateTurns often = with("enter 0;jump 0", "jump 1;enter 0;notify 0;leave 0", "jump 1;jump 2");
            often.run(0, 2 * saved - 1);
            due("COUNT", often.gate(0, 1), saved);
            steps(often, 0);
            read(often, 0, "wait 0;enter 0;set 1 5");
            steps(often, 0);
            due("SAVED", often.of(0, 2), saved);
            due("OVER", often.found(3), 1);
            due("its OUTCOME", often.outcome(0, 1), saved == 9 ? 0 : 5);
            // four till it is let in, then so many of its own with two of TASK 1's; each with four of TASK 2's
            due("FOUND", often.found(0), (4 + (saved == 9 ? 2 : 4) * 2) * 4);
        }
        GateTurns latest = with("jump 0", "jump 0");
        due("who took the latest STEP isn't of it", latest.found(0), 1);
    }

    /** Terms 2: "It STICKS, if no TASK is READY, and one is BLOCKED or WAITING." */
    private static void sticks() {
        due("no TASK", new GateTurns().told(3), 0);
        GateTurns x = with("enter 0;wait 0", "");
        due("two READY", x.told(3), 0);
        steps(x, 0, 0);
        due("one READY, one WAITING", x.told(3), 0);
        steps(x, 1);
        due("one DONE, one WAITING", x.told(3), 1);
        GateTurns y = with("", "leave 0");
        steps(y, 0, 1);
        due("one DONE, one BROKEN", y.told(3), 0);
        due("found(2)", y.found(2), 0);
        GateTurns z = with("enter 0;enter 1", "enter 1;enter 0");
        steps(z, 0, 1, 0);
        due("one READY, one BLOCKED", z.told(3), 0);
        steps(z, 1);
        due("all BLOCKED", z.told(3), 1);
        due("found(2)", z.found(2), 1);
        GateTurns one = with("enter 2;wait 2");
        steps(one, 0, 0);
        due("one WAITING alone", one.told(3), 1);
    }

    /** Terms 2: "It is OVER, if all TASKS are DONE or BROKEN (there is one)." */
    private static void over() {
        GateTurns x = new GateTurns();
        due("no TASK", x.told(4), 0);
        due("found(3)", x.found(3), 0);
        due("found(7)", x.found(7), 0);
        x.task();
        due("one READY", x.told(4), 0);
        due("found(3)", x.found(3), 1);
        steps(x, 0);
        due("one DONE", x.told(4), 1);
        due("found(3)", x.found(3), 1);
        x.task();
        due("one DONE, one READY", x.told(4), 0);
        read(x, 1, "leave 0");
        steps(x, 1);
        due("one DONE, one BROKEN", x.told(4), 1);
        GateTurns w = with("", "enter 0;wait 0");
        steps(w, 0, 1, 1);
        due("one DONE, one WAITING", w.told(4), 0);
        GateTurns z = with("enter 0;enter 1", "enter 1;enter 0");
        steps(z, 0, 1, 0, 1);
        due("both BLOCKED", z.told(4), 0);
    }

    /** Terms 2: "FOUND: the STATE as it is now" */
    private static void theFirstFoundIsNow() {
        GateTurns x = new GateTurns();
        due("of no TASK", x.found(0), 1);
        due("its DEPTH", x.found(4), 0);
        GateTurns y = with("set 0 5", "");
        y.condition(0, 1, 0);
        due("four places, two cells", y.found(0), 6);
        steps(y, 0);
        due("it fails now", y.found(6), 0);
        due("from there on", y.found(0), 4);
        steps(y, 0, 1);
        due("none READY", y.found(0), 1);
        due("its DEPTH", y.found(4), 0);
    }

    /** Terms 2: "FOUND: the STATE as it is now" */
    private static void foundAnewBehindEachCall() {
        View.Call[] calls = {x -> x.put(0, 3), x -> x.missing(1, true), x -> x.step(1), x -> x.task(), x -> x.run(1, 3),
            x -> x.list(0, 2), x -> x.follow(0, 0, 2), x -> x.condition(1, 0, 4), x -> x.back(), x -> x.restart(),
            x -> x.condition(-1, 0, 0), x -> read(x, 2, "enter 1;add 1 -1"), x -> read(x, 1, "set 0 1;leave 2")};
        for (int ahead = 0; ahead < calls.length; ahead++) {
            for (int k = 0; k < calls.length; k++) {
                GateTurns asked = crossed();
                GateTurns notAsked = crossed();
                for (int c : new int[] {ahead, k}) {
                    View.RUNS.of(asked);
                    calls[c].on(asked);
                    calls[c].on(notAsked);
                }
                dueText("FOUND behind call " + ahead + " and " + k, View.RUNS.of(asked), View.RUNS.of(notAsked));
            }
        }
    }

    private static GateTurns crossed() {
        GateTurns x = with("enter 0;enter 1;add 0 1;wait 0", "enter 1;enter 0;add 1 2;notify 0");
        x.condition(0, 0, 1);
        x.image();
        x.step(0);
        return x;
    }

    /** Terms 2: "what it is behind a STEP of TASK 0, 1, .. (of each that is READY in it), if it is unlike all FOUND yet" */
    private static void inTheOrderOfTasks() {
        GateTurns x = with("set 0 1", "set 0 1", "set 0 1", "set 0 1");
        x.condition(0, 3, 1);
        for (int t = 0; t < 4; t++) {
            due("the least that may", x.schedule(1, 0), t);
            due("by one STEP", x.found(6), 1);
            steps(x, t);
            x.put(0, 0);
        }
        due("none is left that may", x.found(6), NO);
    }

    /** 598 states of a count from -50 to 99 in four places, and one for each jump ahead of it. */
    private static GateTurns soMany(int states) {
        int ahead = states - 598;
        StringBuilder text = new StringBuilder();
        for (int k = 1; k <= ahead; k++) {
            text.append("jump ").append(k).append(';');
        }
        text.append("add 0 1;jump ").append(ahead + 2).append(";jump ").append(ahead + 3).append(";jump ").append(ahead);
        GateTurns x = with(text.toString());
        x.put(0, -50);
        return x;
    }

    /** Terms 2: "600 at most: where one more would be, none further is (NOT ALL)." */
    private static void sixHundredAtMost() {
        for (int states = 599; states <= 602; states++) {
            GateTurns x = soMany(states);
            boolean all = states <= 600;
            due(states + ": how many", x.found(0), Math.min(states, 600));
            due(states + ": whether all", x.found(1), all ? 1 : 0);
            due(states + ": DEPTH", x.found(4), Math.min(states, 600) - 1);
            due(states + ": OVER", x.found(3), all ? 1 : 0);
            due(states + ": OUTCOMES", x.found(7), all ? 1 : 0);
            due(states + ": the first OUTCOME", x.outcome(0, 0), all ? 99 : NO_SUCH);
        }
    }

    /** Terms 2: "if it is unlike all FOUND yet. 600 at most" */
    private static void manyWaysToTheSame() {
        // TASKS that have nothing to do with one another: as many STATES as the product, each met by many ways
        String[] jumps = {"jump 1;jump 2", "jump 1;jump 2;jump 3", "jump 1;jump 2;jump 3;jump 4",
            "jump 1;jump 2;jump 3;jump 4;jump 5"};
        int[][] which = {{0, 1, 1, 1}, {0, 1, 1, 2}, {0, 1, 1, 3}, {1, 1, 1, 1}};
        for (int[] w : which) {
            GateTurns x = with(jumps[w[0]], jumps[w[1]], jumps[w[2]], jumps[w[3]]);
            int product = (4 + w[0]) * (4 + w[1]) * (4 + w[2]) * (4 + w[3]);
            boolean all = product <= 600;
            due("of " + product, x.found(0), Math.min(product, 600));
            due("of " + product + ", all", x.found(1), all ? 1 : 0);
            due("of " + product + ", OVER", x.found(3), all ? 1 : 0);
            if (all) {
                due("of " + product + ", DEPTH", x.found(4), 12 + w[0] + w[1] + w[2] + w[3]);
            }
        }
    }

    /** Terms 2: "600 at most: where one more would be, none further is (NOT ALL)." */
    private static void notAllThenAll() {
        GateTurns x = soMany(601);
        due("not all", x.found(1), 0);
        due("none is OVER", x.found(3), 0);
        steps(x, 0);
        due("from one STEP on just 600", x.found(0), 600);
        due("all", x.found(1), 1);
        due("one is OVER", x.found(3), 1);
        x.restart();
        x.put(0, -50);
        due("not all again", x.found(1), 0);
        due("none is OVER", x.found(7), 0);
    }

    /** Jumps ahead, then a count from -99 to 99 in three STEPS each, then two STATEMENTS: 594 STEPS and the jumps to 99. */
    private static GateTurns behindACount(int ahead, String two) {
        StringBuilder text = new StringBuilder();
        for (int k = 1; k <= ahead; k++) {
            text.append("jump ").append(k).append(';');
        }
        text.append("if 0 99 ").append(ahead + 3).append(';').append(two);
        text.append(";add 0 1;jump ").append(ahead);
        GateTurns x = with(text.toString());
        x.put(0, -99);
        return x;
    }

    /** Terms 2: "600 at most: where one more would be, none further is (NOT ALL)." */
    private static void whatIsBehindTheSixHundredthIsNotTold() {
        for (int ahead = 1; ahead <= 3; ahead++) {
            GateTurns nested = behindACount(ahead, "enter 0;enter 0");
            due("how many", nested.found(0), 600);
            due("whether all", nested.found(1), ahead == 1 ? 1 : 0);
            due("NESTED by " + (597 + ahead), nested.found(8), ahead <= 2 ? 1 : 0);
            GateTurns sticks = behindACount(ahead, "enter 0;wait 0");
            due("STICKING by " + (597 + ahead), sticks.found(5), ahead <= 2 ? 597 + ahead : NO);
            due("how many STICK", sticks.found(2), ahead <= 2 ? 1 : 0);
            due("the last of its SCHEDULE", sticks.schedule(0, 596 + ahead), ahead <= 2 ? 0 : NONE);
            due("none behind it", sticks.schedule(0, 597 + ahead), NONE);
        }
        for (int ahead = 2; ahead <= 4; ahead++) {
            GateTurns under = behindACount(ahead, "enter 0;enter 1");
            due("UNDER by " + (596 + ahead), under.under(0), ahead <= 3 ? 2 : 0);
        }
        for (int ahead = 5; ahead <= 7; ahead++) {
            GateTurns fails = behindACount(ahead, "enter 0;enter 1");
            fails.condition(0, 0, 99);
            due("FAILING by " + (593 + ahead), fails.found(6), ahead <= 6 ? 593 + ahead : NO);
        }
    }

    /** Terms 2: "DEPTH: how many STEPS it was FOUND by." */
    private static void depths() {
        due("none", with().found(4), 0);
        due("itself again", with("jump 0").found(4), 0);
        due("DONE at once", with("").found(4), 1);
        due("two TASKS", with("", "").found(4), 2);
        due("twelve and one", with(times(12, "set 0 1")).found(4), 13);
    }

    /** Terms 2: "STICKING: the first FOUND that STICKS." */
    private static void theFirstThatSticks() {
        GateTurns x = with("enter 0;wait 0", "enter 1;wait 1");
        due("in four STEPS", x.found(5), 4);
        steps(x, 0, 0, 1);
        due("in one", x.found(5), 1);
        due("by", x.schedule(0, 0), 1);
        steps(x, 1);
        due("now", x.found(5), 0);
        due("by none", x.schedule(0, 0), NONE);
        GateTurns y = with("enter 0;leave 0");
        due("none", y.found(5), NO);
        // both orders stick at the same DEPTH: the one found first is told
        GateTurns z = with("enter 0;wait 0", "enter 0;wait 0");
        due("TASK 0 ahead", z.schedule(0, 0), 0);
        due("its wait", z.schedule(0, 1), 0);
    }

    /** Terms 2: "CONDITIONS told by hand, 4 at most" */
    private static void conditionsAreFourAtMost() {
        GateTurns x = new GateTurns();
        for (int n = 1; n <= 4; n++) {
            due("condition", x.condition(n - 1, 1, 0), n);
            due("told(2)", x.told(2), n);
        }
        due("a fifth", x.condition(0, 1, 5), FULL);
        due("told(2)", x.told(2), 4);
        due("the fifth isn't there", x.holds(), 1);
        x.put(3, 1);
        due("the fourth is", x.holds(), 0);
    }

    /** Terms 2: "a CELL, how (0 less than, 1 is, 2 more than, 3 isn't), a number" */
    private static void howsAre0To3() {
        int[][] so = {{1, 0, 0}, {0, 1, 0}, {0, 0, 1}, {1, 0, 1}};
        for (int how = 0; how < 4; how++) {
            for (int n : new int[] {-98, 0, 98}) {
                for (int side = -1; side <= 1; side++) {
                    GateTurns x = with("");
                    x.condition(1, how, n);
                    x.put(1, n + side);
                    due("how " + how + ", " + (n + side) + " to " + n, x.holds(), so[how][side + 1]);
                    due("FAILING", x.found(6), so[how][side + 1] == 1 ? NO : 0);
                }
            }
        }
        due("how -1", new GateTurns().condition(1, -1, 0), NONE);
        due("how 4", new GateTurns().condition(1, 4, 0), NONE);
    }

    /** Terms 2: "FAILING: the first FOUND in which not all CONDITIONS are so." */
    private static void theFirstThatFails() {
        GateTurns x = with("add 0 1;add 0 1;add 0 1", "add 1 1");
        due("no CONDITION", x.found(6), NO);
        x.condition(0, 0, 4);
        due("so in all", x.found(6), NO);
        x.condition(0, 0, 3);
        due("one of two isn't, in three STEPS", x.found(6), 3);
        x.condition(0, 0, 2);
        due("in two", x.found(6), 2);
        x.condition(1, 1, 0);
        due("in one, of TASK 1", x.found(6), 1);
        due("by", x.schedule(1, 0), 1);
        due("no second", x.schedule(1, 1), NONE);
        x.condition(-1, 0, 0);
        x.condition(3, 3, 0);
        due("now", x.found(6), 0);
        due("by none", x.schedule(1, 0), NONE);
    }

    /** Terms 2: "OUTCOMES: CELLS of those FOUND that are OVER, each unlike, in the order FOUND." */
    private static void outcomesAreUnlike() {
        due("of no TASK", with().found(7), 0);
        due("none OVER", with("jump 0").found(7), 0);
        GateTurns one = with("leave 0;set 0 1", "set 3 -99");
        due("two ways", one.found(3), 1);
        due("one OUTCOME", one.found(7), 1);
        due("its last CELL", one.outcome(0, 3), -99);
        GateTurns alike = with("if 0 1 2;leave 0", "set 0 1");
        due("two are OVER", alike.found(3), 2);
        due("with the same CELLS", alike.found(7), 1);
        for (int c = 0; c < 4; c++) {
            GateTurns x = with("set " + c + " 1", "set " + c + " 2");
            due("unlike in one CELL", x.found(7), 2);
            due("TASK 1 last is FOUND first", x.outcome(0, c), 2);
            due("then TASK 0 last", x.outcome(1, c), 1);
        }
    }

    /** Terms 2: "UNDER of a MONITOR: those MONITORS x (bits), not MISSING, for which in any FOUND a READY TASK that owns
     * that one, and doesn't own x, has the STATEMENT enter x at its PLACE." */
    private static void underOneAnother() {
        for (int m = 0; m < 3; m++) {
            for (int x = 0; x < 3; x++) {
                GateTurns g = with("enter " + m + ";enter " + x);
                for (int of = 0; of < 3; of++) {
                    due(x + " under " + m, g.under(of), of == m && x != m ? 1 << x : 0);
                }
                g.missing(x, true);
                due(x + " is MISSING", g.under(m), 0);
            }
        }
        due("it left ahead", with("enter 0;leave 0;enter 1").under(0), 0);
        due("it owns it still", with("enter 0;enter 0;leave 0;enter 1").under(0), 2);
        due("it owns x already", with("enter 1;enter 0;enter 1").under(0), 0);
        due("another STATEMENT", with("enter 0;set 1 1;leave 1").under(0), 0);
        due("behind the last", with("enter 0").under(0), 0);
        due("another owns that one", with("enter 0;jump 1", "enter 1").under(0), 0);
        due("another owns x", with("enter 0;enter 1", "enter 1;jump 1").under(0), 2);
        GateTurns waits = with("enter 0;enter 1;wait 1;enter 2", "");
        due("who waits isn't READY", waits.under(0), 2);
        due("nor has it that one", waits.under(1), 0);
        GateTurns blocked = with("enter 0;enter 1;enter 2", "enter 1;enter 1;wait 2");
        steps(blocked, 1, 1, 0, 0);
        due("READY once it is let in", blocked.under(0), 4);
        GateTurns stuck = with("enter 0;enter 1;enter 2", "enter 1;enter 0");
        steps(stuck, 0, 1, 0, 1);
        due("who is BLOCKED for ever isn't READY", stuck.under(0), 0);
    }

    /** Terms 2: "NESTED: in any FOUND a TASK owns a MONITOR, with COUNT 2 or more." */
    private static void nestedByTwo() {
        for (int m = 0; m < 3; m++) {
            for (int count = 0; count <= 3; count++) {
                due(count + " times " + m, with(times(count, "enter " + m)).found(8), count >= 2 ? 1 : 0);
            }
        }
        due("two MONITORS", with("enter 0;enter 1;enter 2").found(8), 0);
        due("left between", with("enter 0;leave 0;enter 0").found(8), 0);
        GateTurns x = with("enter 0;enter 0;leave 0;leave 0");
        steps(x, 0, 0);
        due("now", x.found(8), 1);
        steps(x, 0);
        due("no more", x.found(8), 0);
        GateTurns y = with("enter 0;enter 0;wait 0", "enter 0;notify 0");
        steps(y, 0, 0, 0);
        due("by what is SAVED", y.found(8), 1);
        GateTurns z = with("enter 0;enter 0;wait 0");
        steps(z, 0, 0, 0);
        due("SAVED alone isn't", z.found(8), 0);
    }

    private static String order(GateTurns x, int scheduler, int n) {
        StringBuilder s = new StringBuilder();
        for (int k = 0; k < n && x.run(scheduler, 1) == 1; k++) {
            s.append(x.told(5));
        }
        return s.toString();
    }

    /** Terms 2: "SCHEDULER: 0 the READY TASK of the least number" */
    private static void theLeast() {
        dueText("one by one", order(with("", "jump 1", ""), 0, 9), "0112");
        GateTurns x = with("", "", "", "");
        steps(x, 3);
        dueText("whoever was the latest", order(x, 0, 9), "012");
        dueText("none", order(with(), 0, 9), "");
    }

    /** Terms 2: "2 the greatest number" */
    private static void theGreatest() {
        dueText("one by one", order(with("", "jump 1", ""), 2, 9), "2110");
        GateTurns x = with("", "", "", "");
        steps(x, 0);
        dueText("whoever was the latest", order(x, 2, 9), "321");
        dueText("none", order(with(), 2, 9), "");
    }

    /** Terms 2: "1 the next one READY behind the latest that took a STEP (round, itself last; from TASK 0 on, if none
     * did)" */
    private static void roundAndRound() {
        String five = times(4, "set 0 0"); // and a STEP that makes it DONE
        dueText("from 0 on, if none did", order(with(five, five, five, five), 1, 9), "012301230");
        String[] behind = {"12301", "23012", "30123", "01230"};
        for (int latest = 0; latest < 4; latest++) {
            GateTurns x = with(five, five, five, five);
            steps(x, latest);
            dueText("behind " + latest, order(x, 1, 5), behind[latest]);
        }
        dueText("one TASK alone is its own next", order(with(five), 1, 9), "00000");
        GateTurns y = with("set 0 0;enter 0;wait 0", five, "", "jump 0");
        dueText("who isn't READY is passed by", order(y, 1, 12), "012301301313");
        GateTurns last = with("jump 0", "", "");
        steps(last, 0, 1, 2);
        dueText("round to the first", order(last, 1, 3), "000");
        GateTurns z = with(five, five);
        steps(z, 1);
        z.task();
        dueText("a TASK that came later", order(z, 1, 3), "201");
        z.restart();
        dueText("none did behind restart()", order(z, 1, 3), "012");
        dueText("none", order(with(), 1, 9), "");
    }

    /** Terms 2: "what the latest program() that told a FAULT, or STEP that was truly taken and BROKE, had to tell
     * (restart(), back() leave it)" */
    private static void theLatestTrouble() {
        GateTurns x = with("leave 2", "set 0 1", "");
        dueText("none yet", cause(x), "");
        x.image();
        x.found(0);
        dueText("a STEP that is only gone through", cause(x), "");
        steps(x, 1);
        dueText("a STEP that doesn't break", cause(x), "");
        steps(x, 0);
        dueText("one that does", cause(x), "4:0 5:0 6:2");
        steps(x, 1);
        dueText("a later one that doesn't", cause(x), "4:0 5:0 6:2");
        read(x, 2, "set 0 2");
        dueText("a program without a FAULT", cause(x), "4:0 5:0 6:2");
        read(x, 2, "set 0 2;x");
        dueText("one with a FAULT", cause(x), "1:2 2:1 3:8");
        due("refused", read(x, 1, "y"), STATE);
        due("refused", x.program(3), NONE);
        dueText("a program that is refused", cause(x), "1:2 2:1 3:8");
        x.restart();
        dueText("behind restart()", cause(x), "1:2 2:1 3:8");
        x.back();
        dueText("behind back()", cause(x), "1:2 2:1 3:8");
        steps(x, 0);
        dueText("the latest again", cause(x), "4:0 5:0 6:2");
    }

    /** Terms 2: "of a STEP 4 (the TASK) by 5 (the PLACE) by 6 (REASON 1, 2: the MONITOR) or 7 (3, 4: the MONITOR, the
     * CELL)" */
    private static void chainsOfSteps() {
        String[] last = {"enter 2", "leave 1", "enter 0", "add 3 99"};
        String[] chains = {"6:2", "6:1", "7:0", "7:3"};
        for (int reason = 1; reason <= 4; reason++) {
            for (int task = 0; task < 4; task += 3) {
                String text = (reason == 3 ? times(9, "enter 0") : times(2, "set 3 1")) + ";" + last[reason - 1];
                String[] texts = {"", "", "", ""};
                texts[task] = text;
                GateTurns x = with(texts);
                x.missing(2, true);
                int place = reason == 3 ? 9 : 2;
                for (int k = 0; k < place; k++) {
                    steps(x, task);
                }
                due("it breaks", x.step(task), 4);
                due("reason", x.of(task, 4), reason);
                dueText("the chain", cause(x), "4:" + task + " 5:" + place + " " + chains[reason - 1]);
            }
        }
        GateTurns twelve = with(times(11, "set 0 0") + ";leave 0");
        twelve.run(0, 12);
        dueText("the last PLACE", cause(twelve), "4:0 5:11 6:0");
    }

    public static void main(String[] args) throws ReflectiveOperationException {
        runAll(BoundsOfTerms2.class);
    }
}
