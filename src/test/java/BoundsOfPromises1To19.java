/** The bounds that promises 1 to 19 name, on the bound and a step to each side; Refusals looks at what stays as it was. */
public final class BoundsOfPromises1To19 extends Checks {

    /** Promise 1: "No TASKS." */
    private static void p01NoTasks() {
        GateTurns x = new GateTurns();
        due("told(0)", x.told(0), 0);
        due("of(0, 0)", x.of(0, 0), NONE);
        due("step(0)", x.step(0), NONE);
        due("program(0)", x.program(0), NONE);
        due("statement(0, 0, 0)", x.statement(0, 0, 0), NO_SUCH);
        due("restart()", x.restart(), 0);
        due("image()", x.image(), 0);
        due("back()", x.back(), 0);
        due("run(0, 40)", x.run(0, 40), 0);
        due("are(0)", x.are(0), 0);
        due("found(0)", x.found(0), 1);
        x.task();
        due("told(0)", x.told(0), 1);
        due("of(0, 0)", x.of(0, 0), 0);
    }

    /** Promise 2: "A TASK comes: its number. FULL: four." */
    private static void p02ThreeFourFive() {
        GateTurns x = with("", "", "");
        due("a fourth", x.task(), 3);
        due("a fifth", x.task(), FULL);
        x.restart();
        due("behind restart() too", x.task(), FULL);
        GateTurns y = with("", "");
        y.image();
        y.task();
        y.task();
        due("a fifth", y.task(), FULL);
        due("back to two", y.back(), 2);
        due("a third", y.task(), 2);
        due("a fourth", y.task(), 3);
        due("a fifth", y.task(), FULL);
    }

    /** Promise 2: "A TASK comes: its number. FULL: four." */
    private static void p02ComesNewBehindBack() {
        GateTurns x = with("set 0 1");
        x.image();
        x.task();
        read(x, 1, "enter 0;wait 0");
        steps(x, 1, 1);
        x.back();
        due("task()", x.task(), 1);
        for (int what = 0; what < 7; what++) {
            due("of(1, " + what + ")", x.of(1, what), what == 3 ? NO : 0);
        }
        due("no PROGRAM", x.statement(1, 0, 0), NO_SUCH);
        due("DONE at once", x.step(1), 3);
    }

    /** Promise 3: "All TASKS are at PLACE 0, READY, SAVED 0; MONITORS have no OWNER, COUNT 0, empty rows; CELLS are 0; nobody
     * took a STEP (PROGRAMS, what is MISSING stay): how many TASKS." */
    private static void p03NoneToFour() {
        String[] texts = {"enter 1;enter 1;wait 1", "enter 1;enter 0", "leave 0", "enter 0;enter 1"};
        for (int n = 0; n <= 4; n++) {
            GateTurns x = with(java.util.Arrays.copyOf(texts, n));
            x.missing(2, true);
            x.put(0, 99);
            x.put(3, -99);
            x.run(1, 9);
            due("restart()", x.restart(), n);
            for (int t = 0; t < n; t++) {
                for (int what = 0; what < 7; what++) {
                    due("of(" + t + ", " + what + ")", x.of(t, what), what == 3 ? NO : 0);
                }
                due("its PROGRAM", x.statement(t, 0, 0) >= 0 ? 1 : 0, 1);
            }
            for (int m = 0; m < 3; m++) {
                for (int what = 0; what < 5; what++) {
                    due("gate(" + m + ", " + what + ")", x.gate(m, what), what == 0 ? NO : what == 4 && m == 2 ? 1 : 0);
                }
                due("stands", x.stands(m, 0, 0), NONE);
                due("stands", x.stands(m, 1, 0), NONE);
            }
            for (int c = 0; c < 4; c++) {
                due("cell", x.cell(c), 0);
            }
            due("told(5)", x.told(5), NO);
            due("are(0)", x.are(0), (1 << n) - 1);
        }
    }

    /** Promise 4: "A MONITOR is MISSING, or there: whether it was (1, 0)." */
    private static void p04WasOrWasNot() {
        for (int m = 0; m < 3; m++) {
            GateTurns x = new GateTurns();
            boolean[] is = {false, true, true, false, false, true};
            int was = 0;
            for (boolean i : is) {
                due("missing(" + m + ", " + i + ")", x.missing(m, i), was);
                was = i ? 1 : 0;
                for (int other = 0; other < 3; other++) {
                    due("gate(" + other + ", 4)", x.gate(other, 4), other == m ? was : 0);
                }
            }
        }
    }

    /** Promise 4: "NONE; STATE: it has an OWNER, or one stands in ENTRY or WAIT." */
    private static void p04InUse() {
        GateTurns x = with("enter 0;wait 0;leave 0", "enter 0;notify 0;leave 0");
        due("ahead of use", x.missing(0, false), 0);
        steps(x, 0);
        due("an OWNER", x.missing(0, true), STATE);
        steps(x, 0);
        due("one in WAIT", x.missing(0, true), STATE);
        steps(x, 1);
        due("an OWNER, one in WAIT", x.missing(0, true), STATE);
        steps(x, 1);
        due("an OWNER, one in ENTRY", x.missing(0, true), STATE);
        steps(x, 1);
        due("an OWNER again", x.missing(0, true), STATE);
        steps(x, 0);
        due("behind use", x.missing(0, true), 0);
        due("gate(0, 4)", x.gate(0, 4), 1);
        for (int m : new int[] {-1, 3, LEAST, MOST}) {
            due("missing(" + m + ")", x.missing(m, true), NONE);
        }
    }

    /** Promise 5: "CELL becomes v (-99 .. 99): what it was. -100: no such CELL, v is not so." */
    private static void p05Put() {
        GateTurns x = new GateTurns();
        for (int c : new int[] {-1, 4, LEAST, MOST}) {
            due("put(" + c + ", 0)", x.put(c, 0), NO_SUCH);
        }
        for (int v : new int[] {-100, 100, LEAST, MOST}) {
            due("put(0, " + v + ")", x.put(0, v), NO_SUCH);
            due("put(3, " + v + ")", x.put(3, v), NO_SUCH);
        }
        int was = 0;
        for (int v : new int[] {-99, 99, -98, 98, 0}) {
            due("put(3, " + v + ")", x.put(3, v), was);
            due("cell(3)", x.cell(3), v);
            was = v;
        }
        due("cell(0)", x.cell(0), 0);
    }

    /** Promise 6: "CELL. -100: no such CELL." */
    private static void p06Cell() {
        GateTurns x = new GateTurns();
        for (int c = 0; c < 4; c++) {
            x.put(c, c == 0 ? -99 : c == 3 ? 99 : c);
        }
        int[] cells = {LEAST, -1, 0, 1, 2, 3, 4, MOST};
        int[] is = {NO_SUCH, NO_SUCH, -99, 1, 2, 99, NO_SUCH, NO_SUCH};
        for (int k = 0; k < cells.length; k++) {
            due("cell(" + cells[k] + ")", x.cell(cells[k]), is[k]);
        }
    }

    /** Promise 7: "A byte (1 .. 127) comes behind THE TAPE's: how many it has. BAD; FULL." */
    private static void p07Bytes() {
        int[] letters = {LEAST, -1, 0, 1, 2, 126, 127, 128, 255, MOST};
        for (int letter : letters) {
            GateTurns x = new GateTurns();
            boolean may = letter >= 1 && letter <= 127;
            due("feed(" + letter + ")", x.feed(letter), may ? 1 : BAD);
            due("told(1)", x.told(1), may ? 1 : 0);
        }
    }

    /** Promise 7: "A byte (1 .. 127) comes behind THE TAPE's: how many it has. BAD; FULL." */
    private static void p07Full() {
        GateTurns x = new GateTurns();
        for (int n = 1; n <= 120; n++) {
            due("feed", x.feed(n), n);
        }
        due("the 121st", x.feed(1), FULL);
        due("BAD is told ahead of FULL", x.feed(0), BAD);
        due("BAD is told ahead of FULL", x.feed(128), BAD);
        due("clear()", x.clear(), 120);
        due("room again", x.feed(1), 1);
    }

    /** Promise 8: "THE TAPE is empty then: how many bytes it had." */
    private static void p08Clear() {
        for (int n : new int[] {0, 1, 119, 120}) {
            GateTurns x = with("");
            for (int k = 0; k < n; k++) {
                x.feed('x');
            }
            due("clear()", x.clear(), n);
            due("told(1)", x.told(1), 0);
            due("clear() again", x.clear(), 0);
            due("nothing of it is left", read(x, 0, "all 0"), 1);
        }
        GateTurns y = with("");
        feedAll(y, times(13, "all 0"));
        y.clear();
        due("an empty one", y.program(0), -100);
    }

    /** Promise 9: "THE TAPE becomes the PROGRAM of a TASK: how many STATEMENTS; -100 less the FAULT." */
    private static void p09Programs() {
        GateTurns x = with("", "");
        due("an empty TAPE", x.program(0), -100);
        due("one", read(x, 0, "set 0 1"), 1);
        due("twelve", read(x, 0, times(12, "add 0 1")), 12);
        due("a shorter one", read(x, 0, "set 0 2;set 0 3"), 2);
        due("nothing of the longer is left", x.statement(0, 2, 0), NO_SUCH);
        due("a FAULT", read(x, 0, "set 0 4;set 0"), -113);
        due("the one that was stays", x.statement(0, 1, 2), 3);
        due("to its end", x.statement(0, 2, 0), NO_SUCH);
        due("nor is the other's any", x.statement(1, 0, 0), NO_SUCH);
        due("the farthest FAULT", read(x, 1, times(11, "add 0 -10") + ";add 0 -100"), -219);
    }

    /** Promise 9: "NONE; STATE: its PLACE isn't 0, or it isn't READY (THE TAPE stays by these two)." */
    private static void p09NoneOrState() {
        GateTurns x = with("enter 0;jump 0", "enter 0", "leave 0", "");
        feedAll(x, "all 1;all 2");
        due("program(-1)", x.program(-1), NONE);
        due("program(4)", x.program(4), NONE);
        due("program(MOST)", x.program(MOST), NONE);
        steps(x, 0);
        due("READY at PLACE 1", x.program(0), STATE);
        steps(x, 1);
        due("BLOCKED", x.program(1), STATE);
        steps(x, 2);
        due("BROKEN at PLACE 0", x.program(2), STATE);
        steps(x, 3);
        due("DONE at PLACE 0", x.program(3), STATE);
        due("THE TAPE", x.told(1), 11);
        steps(x, 0);
        due("READY at PLACE 0 again, though it owns", x.program(0), 2);
        due("THE TAPE", x.told(1), 0);
        due("OWNER", x.gate(0, 0), 0);
        GateTurns y = with("", "", "");
        due("program(2) of three", read(y, 2, "all 0"), 1);
        due("program(3) of three", read(y, 3, "all 0"), NONE);
    }

    /** Promise 10: "Of the k-th STATEMENT of a TASK what 0 sort (0 enter, 1 leave, 2 wait, 3 notify, 4 all, 5 add, 6 set, 7
     * if, 8 jump), 1 M or V (jump: K), 2 N (else 0), 3 K (if; else 0). -100: no such." */
    private static void p10Statements() {
        GateTurns x = with("enter 2;leave 1;wait 2;notify 1;all 2;add 3 -99;set 2 99;if 3 -98 12;jump 12;jump 0;if 0 0 0;all 0");
        int[][] is = {{0, 2, 0, 0}, {1, 1, 0, 0}, {2, 2, 0, 0}, {3, 1, 0, 0}, {4, 2, 0, 0}, {5, 3, -99, 0},
            {6, 2, 99, 0}, {7, 3, -98, 12}, {8, 12, 0, 0}, {8, 0, 0, 0}, {7, 0, 0, 0}, {4, 0, 0, 0}};
        for (int k = -1; k <= 12; k++) {
            for (int what = -1; what <= 4; what++) {
                boolean there = k >= 0 && k < 12 && what >= 0 && what < 4;
                due("statement(0, " + k + ", " + what + ")", x.statement(0, k, what), there ? is[k][what] : NO_SUCH);
            }
        }
        for (int far : new int[] {LEAST, MOST}) {
            due("a far TASK", x.statement(far, 0, 0), NO_SUCH);
            due("a far k", x.statement(0, far, 0), NO_SUCH);
            due("a far what", x.statement(0, 0, far), NO_SUCH);
        }
        due("statement(-1, 0, 0)", x.statement(-1, 0, 0), NO_SUCH);
        due("statement(1, 0, 0)", x.statement(1, 0, 0), NO_SUCH);
        x.task();
        due("of no PROGRAM", x.statement(1, 0, 0), NO_SUCH);
    }

    /** Promise 11: "A STEP of a TASK: its STATUS then. NONE; STATE: it isn't READY." */
    private static void p11Step() {
        GateTurns x = with("enter 0;wait 0", "enter 0;enter 1", "enter 0", "leave 2");
        for (int t : new int[] {LEAST, -1, 4, MOST}) {
            due("step(" + t + ")", x.step(t), NONE);
        }
        due("READY", x.step(0), 0);
        due("BLOCKED", x.step(2), 1);
        due("a BLOCKED one", x.step(2), STATE);
        due("WAITING", x.step(0), 2);
        due("a WAITING one", x.step(0), STATE);
        due("BROKEN", x.step(3), 4);
        due("a BROKEN one", x.step(3), STATE);
        due("DONE", x.step(2), 3);
        due("a DONE one", x.step(2), STATE);
        due("READY", x.step(1), 0);
        due("the latest", x.told(5), 1);
        GateTurns y = with("", "", "");
        due("step(3) of three", y.step(3), NONE);
        due("step(2) of three", y.step(2), 3);
    }

    /** Promise 12: "n STEPS (0 .. 40) by a SCHEDULER: how many were taken (till none is READY). NONE: scheduler; BAD." */
    private static void p12Run() {
        int[] ns = {LEAST, -1, 0, 1, 39, 40, 41, MOST};
        int[] taken = {BAD, BAD, 0, 1, 39, 40, BAD, BAD};
        for (int scheduler = -1; scheduler <= 3; scheduler++) {
            for (int k = 0; k < ns.length; k++) {
                GateTurns x = with("jump 0");
                boolean is = scheduler >= 0 && scheduler <= 2;
                due("run(" + scheduler + ", " + ns[k] + ")", x.run(scheduler, ns[k]), is ? taken[k] : NONE);
                due("the latest", x.told(5), is && taken[k] > 0 ? 0 : NO);
            }
        }
        due("run(LEAST, 1)", with("").run(LEAST, 1), NONE);
        due("run(MOST, 41)", with("").run(MOST, 41), NONE);
    }

    /** Promise 12: "n STEPS (0 .. 40) by a SCHEDULER: how many were taken (till none is READY). NONE: scheduler; BAD." */
    private static void p12TillNoneIsReady() {
        for (int scheduler = 0; scheduler <= 2; scheduler++) {
            for (int n = 4; n <= 6; n++) {
                GateTurns x = with("set 0 1", "set 0 2;set 0 3");
                due("run(" + scheduler + ", " + n + ")", x.run(scheduler, n), Math.min(n, 5));
                due("OVER", x.told(4), n >= 5 ? 1 : 0);
                due("no more", x.run(scheduler, 1), n >= 5 ? 0 : 1);
            }
            GateTurns y = with("enter 0;enter 0;wait 0", "leave 1");
            due("till it STICKS", y.run(scheduler, 40), 4);
            due("it STICKS", y.told(3), 1);
        }
        GateTurns counts = with("add 0 1;jump 0");
        counts.run(0, 40);
        counts.run(0, 39);
        due("just so many", counts.cell(0), 40);
        due("PLACE", counts.of(0, 1), 1);
    }

    /** Promise 13: "not all n places are there, or i, n below 0: BEYOND ahead of any STEP; n 0 with i 0 .. the LIST's size:
     * 0" */
    private static void p13Places() {
        for (int size : new int[] {0, 1, 3, 40}) {
            for (int i : new int[] {LEAST, -1, 0, 1, size - 1, size, size + 1, MOST}) {
                for (int n : new int[] {LEAST, -1, 0, 1, size - i, size - i + 1, size, size + 1, MOST}) {
                    GateTurns x = with("jump 0");
                    x.list(2, size);
                    boolean there = i >= 0 && n >= 0 && (long) i + n <= size;
                    due("of " + size + " follow(2, " + i + ", " + n + ")", x.follow(2, i, n), there ? n : BEYOND);
                    due("the latest", x.told(5), there && n > 0 ? 0 : NO);
                }
            }
        }
    }

    /** Promise 13: "how many were taken (till one isn't READY, or is none; those taken stay so). NONE: list; NOTHING;
     * BEYOND." */
    private static void p13TillOneIsNot() {
        int[][] rows = {{0, 1, 0}, {2, 0, 1}, {-1, 0, 1}, {0, LEAST, 1}, {1, 0, MOST}, {1, 1, 1}, {0, 0, 0}};
        int[] taken = {3, 0, 0, 1, 2, 2, 3};
        for (int k = 0; k < rows.length; k++) {
            GateTurns x = with("add 0 1;add 0 1;add 0 1", "set 1 5");
            x.list(3, 3);
            for (int i = 0; i < 3; i++) {
                x.set(3, i, rows[k][i]);
            }
            due("row " + k, x.follow(3, 0, 3), taken[k]);
            due("the latest", x.told(5), taken[k] == 0 ? NO : rows[k][taken[k] - 1]);
            due("those of 0 stay", x.cell(0), new int[] {2, 0, 0, 1, 1, 0, 3}[k]);
            due("those of 1 stay", x.cell(1), new int[] {5, 0, 0, 0, 5, 5, 0}[k]);
        }
        GateTurns y = with("jump 0");
        int[] lists = {LEAST, -1, 0, 3, 4, MOST};
        int[] is = {NONE, NONE, NOTHING, NOTHING, NONE, NONE};
        for (int k = 0; k < lists.length; k++) {
            due("follow(" + lists[k] + ", -1, -1)", y.follow(lists[k], -1, -1), is[k]);
        }
        y.list(0, 0);
        due("an empty row", y.follow(0, 0, 0), 0);
        due("an empty row", y.follow(0, 0, 1), BEYOND);
    }

    /** Promise 14: "3 the MONITOR in whose ENTRY or WAIT it stands (-5: none), 4 REASON (0: not BROKEN), 5 LEFT (0: not DONE),
     * 6 MONITORS it owns (bits). NONE." */
    private static void p14Of() {
        GateTurns x = with("enter 0;enter 1;enter 2;jump 3", "enter 2", "leave 0", "enter 0;wait 0");
        steps(x, 3, 3, 0, 0, 0, 1, 2);
        int[][] is = {{0, 3, 0, NO, 0, 0, 7}, {1, 1, 1, 2, 0, 0, 0}, {4, 0, 0, NO, 2, 0, 0}, {2, 2, 1, 0, 0, 0, 0}};
        for (int t = -1; t <= 4; t++) {
            for (int what = -1; what <= 7; what++) {
                boolean there = t >= 0 && t < 4 && what >= 0 && what < 7;
                due("of(" + t + ", " + what + ")", x.of(t, what), there ? is[t][what] : NONE);
            }
        }
        for (int far : new int[] {LEAST, MOST}) {
            due("of(far, 3)", x.of(far, 3), NONE);
            due("of(0, far)", x.of(0, far), NONE);
        }
    }

    /** Promise 14: "3 the MONITOR in whose ENTRY or WAIT it stands (-5: none), 4 REASON (0: not BROKEN), 5 LEFT (0: not DONE),
     * 6 MONITORS it owns (bits). NONE." */
    private static void p14Owns() {
        for (int bits = 0; bits < 8; bits++) {
            StringBuilder text = new StringBuilder("set 0 0");
            for (int m = 0; m < 3; m++) {
                text.append((bits >> m & 1) == 1 ? ";enter " + m : "");
            }
            GateTurns x = with(text.toString());
            x.run(0, 1 + Integer.bitCount(bits));
            due("it owns", x.of(0, 6), bits);
            due("LEFT ahead", x.of(0, 5), 0);
            steps(x, 0);
            due("LEFT", x.of(0, 5), Integer.bitCount(bits));
            due("it owns none", x.of(0, 6), 0);
        }
    }

    /** Promise 15: "Of a MONITOR what 0 OWNER (-5), 1 COUNT, 2 how many stand in ENTRY, 3 in WAIT, 4 whether it is MISSING.
     * NONE." */
    private static void p15Gate() {
        GateTurns x = with("enter 2;enter 2;wait 0", "enter 2", "enter 2;wait 2", "enter 2");
        steps(x, 2, 2, 0, 0, 1, 3);
        x.missing(0, true);
        int[][] is = {{NO, 0, 0, 0, 1}, {NO, 0, 0, 0, 0}, {0, 2, 2, 1, 0}};
        for (int m = -1; m <= 3; m++) {
            for (int what = -1; what <= 5; what++) {
                boolean there = m >= 0 && m < 3 && what >= 0 && what < 5;
                due("gate(" + m + ", " + what + ")", x.gate(m, what), there ? is[m][what] : NONE);
            }
        }
        for (int far : new int[] {LEAST, MOST}) {
            due("gate(far, 0)", x.gate(far, 0), NONE);
            due("gate(0, far)", x.gate(0, far), NONE);
        }
        String waits = "enter 1;wait 1";
        GateTurns y = with(waits, waits, waits, waits);
        for (int n = 0; n < 4; n++) {
            due("in WAIT", y.gate(1, 3), n);
            steps(y, n, n);
        }
        due("all four in WAIT", y.gate(1, 3), 4);
    }

    /** Promise 16: "The i-th of ENTRY (which 0), WAIT (1) of a MONITOR. NONE." */
    private static void p16Stands() {
        String waits = "enter 1;wait 1";
        GateTurns x = with(waits, waits, waits, waits);
        steps(x, 3, 3, 0, 0, 2, 2, 1, 1);
        int[] all = {3, 0, 2, 1};
        for (int i = -1; i <= 4; i++) {
            boolean there = i >= 0 && i < 4;
            due("stands(1, 1, " + i + ")", x.stands(1, 1, i), there ? all[i] : NONE);
            due("stands(1, 0, " + i + ")", x.stands(1, 0, i), NONE);
            due("stands(1, 2, " + i + ")", x.stands(1, 2, i), NONE);
            due("stands(1, -1, " + i + ")", x.stands(1, -1, i), NONE);
            due("stands(0, 1, " + i + ")", x.stands(0, 1, i), NONE);
            due("stands(2, 1, " + i + ")", x.stands(2, 1, i), NONE);
            due("stands(3, 1, " + i + ")", x.stands(3, 1, i), NONE);
            due("stands(-1, 1, " + i + ")", x.stands(-1, 1, i), NONE);
        }
        for (int far : new int[] {LEAST, MOST}) {
            due("stands(far, 1, 0)", x.stands(far, 1, 0), NONE);
            due("stands(1, far, 0)", x.stands(1, far, 0), NONE);
            due("stands(1, 1, far)", x.stands(1, 1, far), NONE);
        }
        GateTurns y = with("enter 2", "enter 2", "enter 2", "enter 2");
        steps(y, 2, 3, 0, 1);
        int[] three = {3, 0, 1};
        for (int i = -1; i <= 3; i++) {
            due("stands(2, 0, " + i + ")", y.stands(2, 0, i), i >= 0 && i < 3 ? three[i] : NONE);
            due("stands(2, 1, " + i + ")", y.stands(2, 1, i), NONE);
        }
    }

    /** Promise 17: "TASKS (bits) that are of a STATUS. NONE." */
    private static void p17Are() {
        GateTurns x = new GateTurns();
        int[] statuses = {LEAST, -1, 0, 1, 2, 3, 4, 5, MOST};
        for (int status : statuses) {
            due("are(" + status + ") of none", x.are(status), status >= 0 && status <= 4 ? 0 : NONE);
        }
        for (int t = 0; t < 4; t++) {
            x.task();
            due("are(0)", x.are(0), (2 << t) - 1);
        }
        for (int t = 0; t < 4; t++) {
            steps(x, t);
            due("are(3)", x.are(3), (2 << t) - 1);
            due("are(0)", x.are(0), 15 - ((2 << t) - 1));
        }
        due("are(5)", x.are(5), NONE);
    }

    /** Promise 18: "What 0 TASKS, 1 bytes of THE TAPE, 2 CONDITIONS, 3 whether it STICKS, 4 whether it is OVER, 5 who took
     * the latest STEP (-5). NONE." */
    private static void p18Told() {
        GateTurns x = new GateTurns();
        int[] whats = {LEAST, -1, 0, 1, 2, 3, 4, 5, 6, MOST};
        int[] is = {NONE, NONE, 0, 0, 0, 0, 0, NO, NONE, NONE};
        for (int k = 0; k < whats.length; k++) {
            due("told(" + whats[k] + ")", x.told(whats[k]), is[k]);
        }
        GateTurns y = with("", "", "enter 0;wait 0", "");
        steps(y, 2, 2, 0, 1);
        feedAll(y, "xy");
        y.condition(0, 0, 0);
        int[] then = {4, 2, 1, 0, 0, 1};
        for (int what = 0; what < 6; what++) {
            due("told(" + what + ")", y.told(what), then[what]);
        }
        steps(y, 3);
        due("it STICKS", y.told(3), 1);
        due("the latest", y.told(5), 3);
        due("a refused STEP is none", y.step(0), STATE);
        due("the latest", y.told(5), 3);
        y.restart();
        due("nobody", y.told(5), NO);
    }

    /** Promise 19: "Of TROUBLE (i 0), its cause (1), and so on: SORT (what 0), number (1); -5: there is none. NONE: i below 0,
     * what." */
    private static void p19Cause() {
        GateTurns x = with("leave 2");
        int[] is = {LEAST, -1, 0, 1, 2, 3, 4, MOST};
        int[] whats = {LEAST, -1, 0, 1, 2, MOST};
        for (int broken = 0; broken < 2; broken++) {
            int[][] chain = {{4, 0}, {5, 0}, {6, 2}};
            for (int i : is) {
                for (int what : whats) {
                    boolean may = i >= 0 && what >= 0 && what <= 1;
                    int want = !may ? NONE : broken == 0 || i > 2 ? NO : chain[i][what];
                    due("cause(" + i + ", " + what + ")", x.cause(i, what), want);
                }
            }
            x.step(0);
        }
    }

    public static void main(String[] args) throws ReflectiveOperationException {
        runAll(BoundsOfPromises1To19.class);
    }
}
