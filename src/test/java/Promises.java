/** One method for each promise of DOC.md, with ordinary inputs, the edges that it names, and wrong inputs. */
public final class Promises extends Checks {
    private static int promise = 0;

    private static void p1() {
        GateTurns x = new GateTurns();
        due("told(0)", x.told(0), 0);
        due("told(1)", x.told(1), 0);
        due("told(2)", x.told(2), 0);
        due("told(5)", x.told(5), -5);
        due("of(0, 0)", x.of(0, 0), -1);
        for (int m = 0; m < 3; m++) {
            due("gate(m, 0)", x.gate(m, 0), -5);
            for (int what = 1; what < 5; what++) {
                due("gate(m, what)", x.gate(m, what), 0);
            }
        }
        for (int c = 0; c < 4; c++) {
            due("cell(c)", x.cell(c), 0);
        }
        for (int l = 0; l < 4; l++) {
            due("get(l, 0)", x.get(l, 0), -1000000);
            due("set(l, 0, 0)", x.set(l, 0, 0), -11);
        }
        due("back()", x.back(), -3);
        due("cause(0, 0)", x.cause(0, 0), -5);
        due("found(0)", x.found(0), 1);
        due("found(3)", x.found(3), 0);
    }

    private static void p2() {
        GateTurns x = new GateTurns();
        for (int t = 0; t < 4; t++) {
            due("task()", x.task(), t);
        }
        due("task()", x.task(), -4);
        due("told(0)", x.told(0), 4);
        due("are(0)", x.are(0), 15);
        for (int what = 0; what < 7; what++) {
            due("of(3, what)", x.of(3, what), what == 3 ? -5 : 0);
        }
        GateTurns y = with("enter 0");
        y.image();
        due("task()", y.task(), 1);
        read(y, 1, "set 0 1;set 0 2");
        steps(y, 1);
        y.back();
        due("task() behind back()", y.task(), 1);
        due("a new one has no program", y.statement(1, 0, 0), -100);
        due("its place", y.of(1, 1), 0);
    }

    private static void p3() {
        GateTurns x = with("enter 0;wait 0", "enter 0;enter 1;enter 0", "leave 1", "enter 1;set 2 7");
        x.missing(2, true);
        steps(x, 0, 0, 1, 1, 2, 3);
        x.put(3, 9);
        dueText("wait", row(x, 0, 1), "0");
        dueText("entry", row(x, 1, 0), "3");
        due("of(2, 4)", x.of(2, 4), 2);
        due("restart()", x.restart(), 4);
        for (int t = 0; t < 4; t++) {
            for (int what = 0; what < 7; what++) {
                due("of(t, what)", x.of(t, what), what == 3 ? -5 : 0);
            }
        }
        for (int m = 0; m < 3; m++) {
            for (int what = 0; what < 5; what++) {
                due("gate(m, what)", x.gate(m, what), what == 0 ? -5 : what == 4 && m == 2 ? 1 : 0);
            }
        }
        due("cell(3)", x.cell(3), 0);
        due("told(5)", x.told(5), -5);
        due("programs stay", x.statement(3, 1, 2), 7);
        dueText("trouble stays", cause(x), "4:2 5:0 6:1");
        due("restart() of none", new GateTurns().restart(), 0);
    }

    private static void p4() {
        GateTurns x = with("enter 1;wait 1", "enter 1;leave 1", "enter 1");
        due("missing(1, true)", x.missing(1, true), 0);
        due("missing(1, true)", x.missing(1, true), 1);
        due("gate(1, 4)", x.gate(1, 4), 1);
        due("missing(1, false)", x.missing(1, false), 1);
        due("missing(1, false)", x.missing(1, false), 0);
        due("missing(-1, true)", x.missing(-1, true), -1);
        due("missing(3, true)", x.missing(3, true), -1);
        steps(x, 0);
        due("owned", x.missing(1, true), -3);
        due("owned, though it is so", x.missing(1, false), -3);
        steps(x, 0);
        due("one waits", x.missing(1, true), -3);
        due("gate(1, 4)", x.gate(1, 4), 0);
        due("gate(1, 0)", x.gate(1, 0), -5);
        due("another", x.missing(0, true), 0);
    }

    private static void p5() {
        GateTurns x = new GateTurns();
        due("put(0, 99)", x.put(0, 99), 0);
        due("put(0, -99)", x.put(0, -99), 99);
        due("put(0, 100)", x.put(0, 100), -100);
        due("put(0, -100)", x.put(0, -100), -100);
        due("put(-1, 0)", x.put(-1, 0), -100);
        due("put(4, 0)", x.put(4, 0), -100);
        due("put(0, LEAST)", x.put(0, LEAST), -100);
        due("put(0, 5)", x.put(0, 5), -99);
        due("put(3, 1)", x.put(3, 1), 0);
        due("cell(0)", x.cell(0), 5);
    }

    private static void p6() {
        GateTurns x = new GateTurns();
        for (int c = 0; c < 4; c++) {
            x.put(c, c - 50);
        }
        for (int c = 0; c < 4; c++) {
            due("cell(c)", x.cell(c), c - 50);
        }
        due("cell(-1)", x.cell(-1), -100);
        due("cell(4)", x.cell(4), -100);
        due("cell(MOST)", x.cell(MOST), -100);
    }

    private static void p7() {
        GateTurns x = new GateTurns();
        due("feed(0)", x.feed(0), -2);
        due("feed(128)", x.feed(128), -2);
        due("feed(-1)", x.feed(-1), -2);
        due("feed(1)", x.feed(1), 1);
        due("feed(127)", x.feed(127), 2);
        for (int n = 3; n <= 120; n++) {
            due("feed", x.feed(97), n);
        }
        due("feed(97)", x.feed(97), -4);
        due("feed(0)", x.feed(0), -2);
        due("told(1)", x.told(1), 120);
    }

    private static void p8() {
        GateTurns x = new GateTurns();
        due("clear()", x.clear(), 0);
        feedAll(x, "abc");
        due("clear()", x.clear(), 3);
        due("told(1)", x.told(1), 0);
        due("clear()", x.clear(), 0);
        due("feed(97)", x.feed(97), 1);
    }

    private static void fault(String text, int place, int whole) {
        GateTurns x = with("", "");
        due("'" + text + "'", read(x, 1, text), -100 - place);
        dueText("trouble of '" + text + "'", cause(x), "1:1 2:" + whole + " 3:" + place);
        due("the tape is empty", x.told(1), 0);
        due("no program", x.statement(1, 0, 0), -100);
    }

    private static void p9() {
        String twelve = "all 0;all 0;all 0;all 0;all 0;all 0;all 0;all 0;all 0;all 0;all 0;all 0";
        due("twelve", read(with(""), 0, twelve), 12);
        fault(twelve + ";", 71, 12);
        fault(twelve + ";all 0", 71, 12);
        fault(twelve + " ", 71, 12);
        fault("", 0, 0);
        fault(" ", 0, 0);
        fault(";", 0, 0);
        fault("ent", 0, 0);
        fault("enterx 0", 0, 0);
        fault("Enter 0", 0, 0);
        fault("enteR 0", 0, 0);
        fault("enter", 5, 0);
        fault("enter0", 5, 0);
        fault("enter;", 5, 0);
        fault("enter ", 6, 0);
        fault("enter  0", 6, 0);
        fault("enter 3", 6, 0);
        fault("enter 3x", 6, 0);
        fault("enter -", 6, 0);
        fault("leave 3", 6, 0);
        fault("wait 3", 5, 0);
        fault("notify 3", 7, 0);
        fault("all 3", 4, 0);
        fault("allz 0", 0, 0);
        fault("alla 0", 0, 0);
        fault("all{ 0", 3, 0);
        fault("all` 0", 3, 0);
        fault("bdd 0 1", 0, 0);
        fault("enter /", 6, 0);
        fault("enter :", 6, 0);
        fault("jump /", 5, 0);
        fault("jump :", 5, 0);
        fault("enter 12", 7, 1);
        fault("enter 1 ", 7, 1);
        fault("enter 1;", 8, 1);
        fault("enter 1;;", 8, 1);
        fault("enter 1; leave 1", 8, 1);
        fault("enter 1;leav 1", 8, 1);
        fault("add 4 1", 4, 0);
        fault("add 3", 5, 0);
        fault("add 3;", 5, 0);
        fault("add 3 ", 6, 0);
        fault("add 3 -", 7, 0);
        fault("add 3 --1", 7, 0);
        fault("add 3 +1", 6, 0);
        fault("add 3 123", 8, 1);
        fault("add 3 -123", 9, 1);
        fault("add 3 1 1", 7, 1);
        fault("set 33 1", 5, 0);
        fault("if 0 1", 6, 0);
        fault("if 0 1;", 6, 0);
        fault("if 0 123 1", 7, 0);
        fault("if 0 1 13", 7, 0);
        fault("if 0 1 -1", 7, 0);
        fault("if 0 1 ", 7, 0);
        fault("if 0 1 12;if 0 1 99x", 17, 1);
        fault("jump 13", 5, 0);
        fault("jump 133", 5, 0);
        fault("jump 123", 7, 1);
        fault("jump x", 5, 0);
        fault("jump 1x", 6, 1);
        GateTurns x = with("");
        due("all sorts", read(x, 0, "enter 0;leave 1;wait 2;notify 0;all 1;add 3 -05;set 0 -0;if 2 99 00;jump 09"), 9);
        due("told(1)", x.told(1), 0);
        due("a fault", read(x, 0, "set 0 1;set 0"), -113);
        due("the program stays", x.statement(0, 5, 2), -5);
        feedAll(x, "set 1 1");
        due("program(1)", x.program(1), -1);
        due("program(-1)", x.program(-1), -1);
        due("the tape stays", x.told(1), 7);
        steps(x, 0);
        due("program(0)", x.program(0), -3);
        due("the tape stays", x.told(1), 7);
        dueText("trouble stays", cause(x), "1:0 2:1 3:13");
        x.restart();
        due("program(0)", x.program(0), 1);
        steps(x, 0, 0);
        x.restart();
        read(x, 0, "leave 0");
        steps(x, 0);
        due("broken at place 0", x.of(0, 1), 0);
        due("program(0) of a broken one", x.program(0), -3);
        GateTurns y = with("enter 0;jump 0");
        steps(y, 0, 0);
        due("ready at place 0 again", read(y, 0, "leave 0"), 1);
    }

    private static void p10() {
        GateTurns x = with("enter 0;leave 1;wait 2;notify 0;all 1;add 3 -5;set 1 99;if 2 -7 12;jump 11");
        int[][] want = {{0, 0, 0, 0}, {1, 1, 0, 0}, {2, 2, 0, 0}, {3, 0, 0, 0}, {4, 1, 0, 0}, {5, 3, -5, 0},
            {6, 1, 99, 0}, {7, 2, -7, 12}, {8, 11, 0, 0}};
        for (int k = 0; k < want.length; k++) {
            for (int what = 0; what < 4; what++) {
                due("statement(0, " + k + ", " + what + ")", x.statement(0, k, what), want[k][what]);
            }
        }
        due("statement(0, 9, 0)", x.statement(0, 9, 0), -100);
        due("statement(0, -1, 0)", x.statement(0, -1, 0), -100);
        due("statement(0, 0, 4)", x.statement(0, 0, 4), -100);
        due("statement(0, 0, -1)", x.statement(0, 0, -1), -100);
        due("statement(1, 0, 0)", x.statement(1, 0, 0), -100);
        due("statement(-1, 0, 0)", x.statement(-1, 0, 0), -100);
        due("statement(0, MOST, 0)", x.statement(0, MOST, 0), -100);
    }

    private static void p11() {
        GateTurns x = with("enter 0;enter 0;wait 0;leave 0;leave 0", "enter 0;notify 0;leave 0", "enter 0", "enter 0");
        due("step(4)", x.step(4), -1);
        due("step(-1)", x.step(-1), -1);
        due("enters", x.step(0), 0);
        due("blocks", x.step(2), 1);
        due("step(2)", x.step(2), -3);
        due("saved", x.of(2, 2), 1);
        due("place behind enter", x.of(2, 1), 1);
        due("enters again", x.step(0), 0);
        due("count", x.gate(0, 1), 2);
        due("waits", x.step(0), 2);
        due("saved", x.of(0, 2), 2);
        due("the first of entry owns", x.gate(0, 0), 2);
        due("count is its saved", x.gate(0, 1), 1);
        due("it is ready", x.of(2, 0), 0);
        due("its saved is 0", x.of(2, 2), 0);
        steps(x, 1, 3);
        dueText("entry", row(x, 0, 0), "13");
        due("done", x.step(2), 3);
        due("left", x.of(2, 5), 1);
        due("the next one owns", x.gate(0, 0), 1);
        steps(x, 1);
        dueText("entry behind notify", row(x, 0, 0), "30");
        dueText("wait behind notify", row(x, 0, 1), "");
        due("the notified keeps saved", x.of(0, 2), 2);
        due("it is blocked", x.of(0, 0), 1);
        steps(x, 1, 3);
        due("it owns as often as it did", x.gate(0, 1), 2);
        due("its place is behind wait", x.of(0, 1), 3);
        steps(x, 0);
        due("count", x.gate(0, 1), 1);
        steps(x, 0);
        due("freed", x.gate(0, 0), -5);
        due("done", x.step(0), 3);
        due("left", x.of(0, 5), 0);
        due("step of a done one", x.step(0), -3);
        breaks();
        cellsAndPlaces();
        manyWait();
    }

    private static void breaks(String text, int taken, int reason, String chain) {
        GateTurns x = with(text);
        x.missing(2, true);
        x.run(0, taken - 1);
        int place = x.of(0, 1);
        due("'" + text + "' breaks", x.step(0), 4);
        due("its place stays", x.of(0, 1), place);
        due("reason of '" + text + "'", x.of(0, 4), reason);
        due("left", x.of(0, 5), 0);
        due("it owns none", x.of(0, 6), 0);
        dueText("chain of '" + text + "'", cause(x), chain);
    }

    private static void breaks() {
        breaks("enter 2", 1, 1, "4:0 5:0 6:2");
        breaks("leave 2", 1, 1, "4:0 5:0 6:2");
        breaks("wait 2", 1, 1, "4:0 5:0 6:2");
        breaks("notify 2", 1, 1, "4:0 5:0 6:2");
        breaks("all 2", 1, 1, "4:0 5:0 6:2");
        breaks("enter 0;leave 1", 2, 2, "4:0 5:1 6:1");
        breaks("enter 0;wait 1", 2, 2, "4:0 5:1 6:1");
        breaks("enter 0;notify 1", 2, 2, "4:0 5:1 6:1");
        breaks("enter 0;all 1", 2, 2, "4:0 5:1 6:1");
        breaks("enter 1;jump 0", 19, 3, "4:0 5:0 7:1");
        breaks("set 3 99;add 3 1", 2, 4, "4:0 5:1 7:3");
        breaks("set 3 -99;add 3 -1", 2, 4, "4:0 5:1 7:3");
        GateTurns x = with("enter 0;enter 1;enter 0;leave 2", "enter 1", "enter 0");
        steps(x, 0, 0, 0, 1, 2);
        due("breaks", x.step(0), 4);
        due("all it owned are freed", x.gate(0, 0), 2);
        due("all it owned are freed", x.gate(1, 0), 1);
        due("count", x.gate(0, 1), 1);
        due("both are ready", x.are(0), 6);
        GateTurns y = with("enter 0;enter 0;jump 1");
        y.run(0, 16);
        due("count 9", y.gate(0, 1), 9);
        due("step", y.step(0), 0);
        due("count 10", y.step(0), 4);
        due("freed", y.gate(0, 1), 0);
    }

    private static void cellsAndPlaces() {
        GateTurns x = with("set 1 98;add 1 1;if 1 98 4;set 0 1;if 1 99 0;jump 12");
        steps(x, 0, 0);
        due("add up to 99", x.cell(1), 99);
        steps(x, 0);
        due("isn't: the place is K", x.of(0, 1), 4);
        steps(x, 0);
        due("is: the place is 1 more", x.of(0, 1), 5);
        steps(x, 0);
        due("a K beyond is the end", x.of(0, 1), 6);
        due("done", x.step(0), 3);
        due("cell(0)", x.cell(0), 0);
        GateTurns y = with("if 0 1 9");
        steps(y, 0);
        due("a K beyond is the end", y.of(0, 1), 1);
        due("a task of no program is done at once", with("").step(0), 3);
        GateTurns z = with("enter 0;enter 2;enter 2");
        z.run(0, 4);
        due("left", z.of(0, 5), 2);
        due("freed", z.gate(2, 1), 0);
    }

    private static void manyWait() {
        String waits = "enter 1;wait 1";
        GateTurns x = with(waits, waits, waits, "enter 1;all 1");
        steps(x, 2, 2, 0, 0, 1, 1, 3);
        dueText("wait", row(x, 1, 1), "201");
        steps(x, 3);
        dueText("wait behind all", row(x, 1, 1), "");
        dueText("entry behind all", row(x, 1, 0), "201");
        due("all are blocked", x.are(1), 7);
        due("done", x.step(3), 3);
        due("the first owns", x.gate(1, 0), 2);
        GateTurns y = with(waits, waits, "enter 1;notify 1;notify 1;notify 1");
        steps(y, 0, 0, 1, 1, 2, 2);
        dueText("entry", row(y, 1, 0), "0");
        dueText("wait", row(y, 1, 1), "1");
        steps(y, 2, 2);
        dueText("entry", row(y, 1, 0), "01");
        due("notify of none", y.of(2, 1), 4);
        GateTurns z = with(waits, waits, waits, waits);
        steps(z, 3, 3, 1, 1, 0, 0, 2, 2);
        dueText("all four wait", row(z, 1, 1), "3102");
    }

    private static void p12() {
        GateTurns x = with("set 0 1", "set 0 2", "set 0 3");
        due("run(-1, 1)", x.run(-1, 1), -1);
        due("run(3, 41)", x.run(3, 41), -1);
        due("run(0, 41)", x.run(0, 41), -2);
        due("run(0, -1)", x.run(0, -1), -2);
        due("run(0, 0)", x.run(0, 0), 0);
        due("nobody took a step", x.told(5), -5);
        due("run(1, 1)", x.run(1, 1), 1);
        due("from task 0 on", x.told(5), 0);
        due("run(1, 1)", x.run(1, 1), 1);
        due("then task 1", x.told(5), 1);
        due("run(2, 1)", x.run(2, 1), 1);
        due("the greatest", x.told(5), 2);
        due("run(1, 2)", x.run(1, 2), 2);
        due("round, and all were at their end", x.are(3), 3);
        due("run(1, 2)", x.run(1, 2), 1);
        due("run(0, 40)", x.run(0, 40), 0);
        GateTurns y = with("jump 0", "set 0 1", "jump 0");
        due("run(0, 40)", y.run(0, 40), 40);
        due("the least", y.told(5), 0);
        due("run(2, 40)", y.run(2, 40), 40);
        due("the greatest", y.told(5), 2);
        due("task 1 stands still", y.of(1, 1), 0);
        GateTurns z = with("jump 0");
        due("itself last", z.run(1, 3), 3);
        due("none", new GateTurns().run(1, 5), 0);
        GateTurns w = with("leave 0", "set 0 1");
        due("a breaking step counts", w.run(0, 40), 3);
        dueText("it is told", cause(w), "4:0 5:0 6:0");
    }

    private static void p13() {
        GateTurns x = with("set 0 1;set 0 2", "set 1 5", "leave 0");
        due("follow(-1, 0, 0)", x.follow(-1, 0, 0), -1);
        due("follow(4, -1, 0)", x.follow(4, -1, 0), -1);
        due("follow(0, -1, 0)", x.follow(0, -1, 0), -11);
        x.list(0, 5);
        int[] tasks = {0, 1, 2, 2, 0};
        for (int i = 0; i < 5; i++) {
            x.set(0, i, tasks[i]);
        }
        due("follow(0, 0, 6)", x.follow(0, 0, 6), -13);
        due("follow(0, 3, 3)", x.follow(0, 3, 3), -13);
        due("follow(0, -1, 2)", x.follow(0, -1, 2), -13);
        due("follow(0, 0, -1)", x.follow(0, 0, -1), -13);
        due("follow(0, 6, 0)", x.follow(0, 6, 0), -13);
        due("follow(0, MOST, MOST)", x.follow(0, MOST, MOST), -13);
        due("follow(0, 1, MOST)", x.follow(0, 1, MOST), -13);
        due("follow(0, LEAST, LEAST)", x.follow(0, LEAST, LEAST), -13);
        due("follow(0, 5, 0)", x.follow(0, 5, 0), 0);
        due("follow(0, 0, 0)", x.follow(0, 0, 0), 0);
        due("no step was taken", x.told(5), -5);
        due("till one isn't ready", x.follow(0, 0, 5), 3);
        due("those taken stay", x.cell(1), 5);
        due("the latest", x.told(5), 2);
        dueText("it is told", cause(x), "4:2 5:0 6:0");
        due("follow(0, 4, 1)", x.follow(0, 4, 1), 1);
        x.set(0, 1, 3);
        due("till one is none", x.follow(0, 0, 3), 1);
        x.set(0, 0, -1);
        due("till one is none", x.follow(0, 0, 1), 0);
        x.list(1, 0);
        due("an empty list", x.follow(1, 0, 0), 0);
        due("an empty list", x.follow(1, 0, 1), -13);
    }

    private static void p14() {
        GateTurns x = with("enter 0;enter 2;enter 1", "enter 1;wait 1", "enter 0", "leave 0");
        steps(x, 1, 1, 0, 0, 2, 3);
        int[][] want = {{0, 2, 0, -5, 0, 0, 5}, {2, 2, 1, 1, 0, 0, 0}, {1, 1, 1, 0, 0, 0, 0}, {4, 0, 0, -5, 2, 0, 0}};
        for (int t = 0; t < 4; t++) {
            for (int what = 0; what < 7; what++) {
                due("of(" + t + ", " + what + ")", x.of(t, what), want[t][what]);
            }
        }
        steps(x, 0, 0);
        due("left", x.of(0, 5), 3);
        due("of(0, 0)", x.of(0, 0), 3);
        due("of(0, 4)", x.of(0, 4), 0);
        due("of(4, 0)", x.of(4, 0), -1);
        due("of(-1, 3)", x.of(-1, 3), -1);
        due("of(0, 7)", x.of(0, 7), -1);
        due("of(0, -1)", x.of(0, -1), -1);
    }

    private static void p15() {
        GateTurns x = with("enter 1;enter 1;enter 1", "enter 1;wait 1", "enter 1", "enter 1");
        steps(x, 1, 1, 0, 0, 0, 2, 3);
        x.missing(0, true);
        int[][] want = {{-5, 0, 0, 0, 1}, {0, 3, 2, 1, 0}, {-5, 0, 0, 0, 0}};
        for (int m = 0; m < 3; m++) {
            for (int what = 0; what < 5; what++) {
                due("gate(" + m + ", " + what + ")", x.gate(m, what), want[m][what]);
            }
        }
        due("gate(3, 0)", x.gate(3, 0), -1);
        due("gate(-1, 0)", x.gate(-1, 0), -1);
        due("gate(0, 5)", x.gate(0, 5), -1);
        due("gate(0, -1)", x.gate(0, -1), -1);
    }

    private static void p16() {
        GateTurns x = with("enter 1", "enter 1;wait 1", "enter 1", "enter 1");
        steps(x, 1, 1, 0, 3, 2);
        due("stands(1, 0, 0)", x.stands(1, 0, 0), 3);
        due("stands(1, 0, 1)", x.stands(1, 0, 1), 2);
        due("stands(1, 0, 2)", x.stands(1, 0, 2), -1);
        due("stands(1, 1, 0)", x.stands(1, 1, 0), 1);
        due("stands(1, 1, 1)", x.stands(1, 1, 1), -1);
        due("stands(1, 2, 0)", x.stands(1, 2, 0), -1);
        due("stands(1, -1, 0)", x.stands(1, -1, 0), -1);
        due("stands(1, 0, -1)", x.stands(1, 0, -1), -1);
        due("stands(1, 0, MOST)", x.stands(1, 0, MOST), -1);
        due("stands(1, 0, LEAST)", x.stands(1, 0, LEAST), -1);
        due("stands(3, 0, 0)", x.stands(3, 0, 0), -1);
        due("stands(-1, 0, 0)", x.stands(-1, 0, 0), -1);
        due("stands(0, 0, 0)", x.stands(0, 0, 0), -1);
    }

    private static void p17() {
        GateTurns x = with("enter 1", "enter 0;wait 0", "enter 1", "leave 0");
        steps(x, 0, 1, 1, 2, 3);
        int[] want = {1, 4, 2, 0, 8};
        for (int status = 0; status < 5; status++) {
            due("are(" + status + ")", x.are(status), want[status]);
        }
        steps(x, 0, 2);
        due("are(3)", x.are(3), 5);
        due("are(5)", x.are(5), -1);
        due("are(-1)", x.are(-1), -1);
    }

    private static void p18() {
        GateTurns x = with("enter 0;wait 0", "");
        feedAll(x, "abc");
        x.condition(0, 0, 0);
        x.condition(0, 0, 0);
        int[] want = {2, 3, 2, 0, 0, -5};
        for (int what = 0; what < 6; what++) {
            due("told(" + what + ")", x.told(what), want[what]);
        }
        steps(x, 0, 0);
        due("one is ready", x.told(3), 0);
        steps(x, 1);
        due("it sticks", x.told(3), 1);
        due("it isn't over", x.told(4), 0);
        due("the latest", x.told(5), 1);
        due("told(6)", x.told(6), -1);
        due("told(-1)", x.told(-1), -1);
        GateTurns y = with("", "leave 0");
        steps(y, 0);
        due("not yet over", y.told(4), 0);
        steps(y, 1);
        due("over", y.told(4), 1);
        due("it doesn't stick", y.told(3), 0);
        due("no task: not over", new GateTurns().told(4), 0);
    }

    private static void p19() {
        GateTurns x = with("set 0 1;leave 2", "enter 0");
        due("cause(0, 1)", x.cause(0, 1), -5);
        due("cause(-1, 0)", x.cause(-1, 0), -1);
        due("cause(0, 2)", x.cause(0, 2), -1);
        due("cause(0, -1)", x.cause(0, -1), -1);
        due("cause(9, 2)", x.cause(9, 2), -1);
        steps(x, 1);
        dueText("no trouble", cause(x), "");
        due("what is only found is no trouble", x.found(0) > 1 ? 1 : 0, 1);
        dueText("no trouble", cause(x), "");
        steps(x, 0, 0);
        dueText("a step's", cause(x), "4:0 5:1 6:2");
        due("cause(3, 0)", x.cause(3, 0), -5);
        due("cause(MOST, 1)", x.cause(MOST, 1), -5);
        x.image();
        x.restart();
        read(x, 1, "add 0 1;bad 0");
        dueText("a program's", cause(x), "1:1 2:1 3:8");
        x.back();
        dueText("back() leaves it", cause(x), "1:1 2:1 3:8");
        x.restart();
        read(x, 1, "add 0 1");
        dueText("a program without a fault leaves it", cause(x), "1:1 2:1 3:8");
    }

    private static void p20() {
        GateTurns x = with("enter 0;enter 1", "enter 1;enter 0");
        due("found(2)", x.found(2), 1);
        due("found(5)", x.found(5), 4);
        due("found(6)", x.found(6), -5);
        due("found(8)", x.found(8), 0);
        due("found(9)", x.found(9), -1);
        due("found(-1)", x.found(-1), -1);
        GateTurns y = with("jump 0");
        due("found(0)", y.found(0), 1);
        due("found(4)", y.found(4), 0);
        due("found(3)", y.found(3), 0);
        // ahead of set 1; of -99 two; of each up to 98 three; of 99 two, then as many as stand behind the if, and DONE
        GateTurns just = with("set 0 -99;if 0 99 4;set 1 1;jump 7;add 0 1;jump 1");
        due("a count to 99", just.found(0), 1 + 2 + 197 * 3 + 2 + 4);
        due("just all", just.found(1), 1);
        due("depth", just.found(4), 599);
        due("one is over", just.found(3), 1);
        GateTurns more = with("set 0 -99;if 0 99 5;set 1 1;set 1 2;jump 9;add 0 1;jump 1");
        due("600 at most", more.found(0), 600);
        due("not all", more.found(1), 0);
        due("depth", more.found(4), 599);
        due("none is over", more.found(3), 0);
        steps(more, 0);
        due("one less", more.found(0), 600);
        due("all of them", more.found(1), 1);
        due("one is over", more.found(3), 1);
        GateTurns nested = with("enter 0;enter 0");
        due("nested", nested.found(8), 1);
        GateTurns late = with("enter 0;leave 0;enter 0");
        due("not nested", late.found(8), 0);
        outcomesAndFresh();
    }

    private static void outcomesAndFresh() {
        GateTurns x = with("set 0 1", "set 0 2", "set 1 3");
        due("outcomes", x.found(7), 2);
        due("over", x.found(3), 2);
        GateTurns alike = with("if 0 1 2;leave 0", "set 0 1");
        due("two are over", alike.found(3), 2);
        due("with the same cells", alike.found(7), 1);
        x.put(1, 7);
        due("asked anew behind put", x.found(0) > 27 ? 1 : 0, 1);
        x.task();
        int four = x.found(0);
        due("asked anew behind task", four > 54 ? 1 : 0, 1);
        steps(x, 3);
        due("asked anew behind step", x.found(0) < four ? 1 : 0, 1);
        x.restart();
        due("no condition", x.found(6), -5);
        x.condition(0, 0, 2);
        due("asked anew behind condition", x.found(6), 1);
        x.condition(-1, 0, 0);
        due("asked anew behind no condition", x.found(6), -5);
        read(x, 1, "set 0 1");
        due("asked anew behind program", x.found(7), 1);
        x.image();
        x.run(1, 40);
        due("asked anew behind run", x.found(0), 1);
        x.back();
        due("asked anew behind back", x.found(0) > 1 ? 1 : 0, 1);
        GateTurns y = with("enter 0;wait 0");
        due("it sticks", y.found(2), 1);
        y.missing(0, true);
        due("asked anew behind missing", y.found(2), 0);
        y.missing(0, false);
        y.list(0, 2);
        due("it sticks", y.found(5), 2);
        y.follow(0, 0, 2);
        due("asked anew behind follow", y.found(5), 0);
        y.restart();
        due("asked anew behind restart", y.found(5), 2);
    }

    private static void p21() {
        GateTurns x = with("enter 0;enter 1", "enter 1;enter 0");
        int[] want = {0, 1, 0, 1};
        for (int i = 0; i < 4; i++) {
            due("schedule(0, i)", x.schedule(0, i), want[i]);
        }
        due("schedule(0, 4)", x.schedule(0, 4), -1);
        due("schedule(0, -1)", x.schedule(0, -1), -1);
        due("schedule(1, 0)", x.schedule(1, 0), -1);
        due("schedule(2, 0)", x.schedule(2, 0), -1);
        due("schedule(-1, 0)", x.schedule(-1, 0), -1);
        GateTurns y = with("set 0 1", "jump 1;set 0 5");
        y.condition(0, 0, 5);
        due("schedule(1, 0)", y.schedule(1, 0), 1);
        due("schedule(1, 1)", y.schedule(1, 1), 1);
        due("schedule(1, 2)", y.schedule(1, 2), -1);
        due("schedule(2, 0)", y.schedule(2, 0), -1);
        due("schedule(-1, 0)", y.schedule(-1, 0), -1);
        y.put(0, 9);
        due("failing now: no tasks", y.schedule(1, 0), -1);
        due("depth 0", y.found(6), 0);
    }

    private static void p22() {
        GateTurns x = with("enter 0;enter 1", "enter 1;enter 0");
        due("lay(0, 4, 0)", x.lay(0, 4, 0), -1);
        due("lay(0, -1, 0)", x.lay(0, -1, 0), -1);
        due("lay(2, 0, 0)", x.lay(2, 0, 0), -1);
        due("lay(-1, 0, 0)", x.lay(-1, 0, 0), -1);
        due("lay(0, 0, -1)", x.lay(0, 0, -1), -11);
        due("lay(1, 0, 0)", x.lay(1, 0, 0), -11);
        x.list(0, 4);
        due("lay(1, 0, -1)", x.lay(1, 0, -1), -5);
        due("lay(0, 0, -1)", x.lay(0, 0, -1), -13);
        due("lay(0, 0, LEAST)", x.lay(0, 0, LEAST), -13);
        due("lay(0, 0, MOST)", x.lay(0, 0, MOST), -13);
        due("lay(0, 0, 4)", x.lay(0, 0, 4), -13);
        due("nothing laid", x.get(0, 1), 0);
        due("lay(0, 0, 0)", x.lay(0, 0, 0), 4);
        due("laid", x.get(0, 3), 1);
        x.list(0, 6);
        for (int i = 0; i < 6; i++) {
            x.set(0, i, 9);
        }
        due("lay(0, 0, 3)", x.lay(0, 0, 3), -13);
        int[] want = {9, 9, 9, 0, 1, 0};
        for (int i = 0; i < 6; i++) {
            due("those that had a place", x.get(0, i), want[i]);
        }
        due("lay(0, 0, 2)", x.lay(0, 0, 2), 4);
        x.follow(0, 2, 4);
        due("followed, it sticks", x.told(3), 1);
        due("a schedule of no tasks", x.lay(0, 0, -7), 0);
        due("a schedule of no tasks", x.lay(0, 0, 99), 0);
    }

    private static void p23() {
        GateTurns x = with("set 0 1;set 3 -99", "set 0 2;set 3 99");
        int outcomes = x.found(7);
        due("outcomes", outcomes, 4);
        due("outcome(0, 0)", x.outcome(0, 0), 2);
        due("outcome(0, 3)", x.outcome(0, 3), 99);
        due("outcome(0, 1)", x.outcome(0, 1), 0);
        due("outcome(4, 0)", x.outcome(4, 0), -100);
        due("outcome(-1, 0)", x.outcome(-1, 0), -100);
        due("outcome(0, 4)", x.outcome(0, 4), -100);
        due("outcome(0, -1)", x.outcome(0, -1), -100);
        due("outcome(MOST, 0)", x.outcome(MOST, 0), -100);
        boolean least = false;
        for (int k = 0; k < outcomes; k++) {
            least = least || x.outcome(k, 3) == -99;
        }
        due("one has -99", least ? 1 : 0, 1);
        due("no outcome", with("jump 0").outcome(0, 0), -100);
    }

    private static void p24() {
        GateTurns x = with("enter 0;enter 1;enter 2", "enter 2;enter 2;leave 0");
        due("under(0)", x.under(0), 6);
        due("under(1)", x.under(1), 4);
        due("under(2)", x.under(2), 0);
        due("under(3)", x.under(3), -1);
        due("under(-1)", x.under(-1), -1);
        x.missing(2, true);
        due("what is missing isn't under", x.under(0), 2);
        due("what is missing isn't under", x.under(1), 0);
        GateTurns y = with("enter 0;leave 0;enter 1");
        due("left ahead", y.under(0), 0);
        GateTurns z = with("enter 0;enter 1;enter 0", "enter 1;wait 1");
        due("owned already", z.under(1), 0);
        due("not ready: never about to", z.under(0), 2);
    }

    private static void p25() {
        due("none", new GateTurns().round(), 0);
        due("two", with("enter 0;enter 1", "enter 1;enter 0").round(), 1);
        due("three", with("enter 0;enter 1", "enter 1;enter 2", "enter 2;enter 0").round(), 1);
        due("three, the other way", with("enter 1;enter 0", "enter 2;enter 1", "enter 0;enter 2").round(), 1);
        due("no way back", with("enter 0;enter 1", "enter 1;enter 2", "enter 0;enter 2").round(), 0);
        due("two of the others", with("enter 2;enter 1", "enter 1;enter 2", "enter 0;enter 1").round(), 1);
        due("itself is none", with("enter 0;enter 0").round(), 0);
    }

    private static void p26() {
        GateTurns x = new GateTurns();
        due("condition(4, 0, 0)", x.condition(4, 0, 0), -1);
        due("condition(-2, 0, 0)", x.condition(-2, 0, 0), -1);
        due("condition(0, 4, 0)", x.condition(0, 4, 0), -1);
        due("condition(0, -1, 100)", x.condition(0, -1, 100), -1);
        due("condition(0, 0, 100)", x.condition(0, 0, 100), -2);
        due("condition(0, 0, -100)", x.condition(0, 0, -100), -2);
        due("condition(0, 0, 99)", x.condition(0, 0, 99), 1);
        due("condition(3, 3, -99)", x.condition(3, 3, -99), 2);
        due("condition(0, 0, 99)", x.condition(0, 0, 99), 3);
        due("condition(0, 0, 99)", x.condition(0, 0, 99), 4);
        due("condition(0, 0, 99)", x.condition(0, 0, 99), -4);
        due("condition(0, 0, 100)", x.condition(0, 0, 100), -2);
        due("condition(9, 0, 0)", x.condition(9, 0, 0), -1);
        due("told(2)", x.told(2), 4);
        due("condition(-1, 77, 1000)", x.condition(-1, 77, 1000), 0);
        due("told(2)", x.told(2), 0);
        due("condition(0, 2, -1)", x.condition(0, 2, -1), 1);
    }

    private static void p27() {
        GateTurns x = new GateTurns();
        due("none", x.holds(), 1);
        int[][] want = {{1, 0, 0}, {0, 1, 0}, {0, 0, 1}, {1, 0, 1}};
        for (int how = 0; how < 4; how++) {
            x.condition(-1, 0, 0);
            x.condition(2, how, 5);
            for (int k = 0; k < 3; k++) {
                x.put(2, 4 + k);
                due("how " + how + " of " + (4 + k), x.holds(), want[how][k]);
            }
        }
        x.condition(-1, 0, 0);
        x.condition(0, 1, 0);
        x.condition(1, 1, 0);
        due("both", x.holds(), 1);
        x.put(1, 1);
        due("not both", x.holds(), 0);
    }

    private static void p28() {
        GateTurns x = new GateTurns();
        due("list(4, 41)", x.list(4, 41), -1);
        due("list(-1, 0)", x.list(-1, 0), -1);
        due("list(0, 41)", x.list(0, 41), -2);
        due("list(0, MOST)", x.list(0, MOST), -2);
        due("list(0, -1)", x.list(0, -1), -14);
        due("list(0, LEAST)", x.list(0, LEAST), -14);
        due("still nothing", x.set(0, 0, 1), -11);
        due("list(0, 40)", x.list(0, 40), 1);
        due("set(0, 39, 8)", x.set(0, 39, 8), 1);
        due("list(0, 41)", x.list(0, 41), -2);
        due("it stays", x.get(0, 39), 8);
        due("list(0, 40)", x.list(0, 40), 1);
        due("all 0", x.get(0, 39), 0);
        due("list(0, 0)", x.list(0, 0), 1);
        due("no place", x.set(0, 0, 1), -13);
        due("list(3, 1)", x.list(3, 1), 1);
        due("get(3, 0)", x.get(3, 0), 0);
    }

    private static void p29() {
        GateTurns x = new GateTurns();
        x.list(2, 3);
        due("set(2, 0, LEAST)", x.set(2, 0, LEAST), 1);
        due("set(2, 2, MOST)", x.set(2, 2, MOST), 1);
        due("set(2, 3, 0)", x.set(2, 3, 0), -13);
        due("set(2, -1, 0)", x.set(2, -1, 0), -13);
        due("set(1, -1, 0)", x.set(1, -1, 0), -11);
        due("set(4, 0, 0)", x.set(4, 0, 0), -1);
        due("set(-1, 0, 0)", x.set(-1, 0, 0), -1);
        due("get(2, 0)", x.get(2, 0), LEAST);
        due("get(2, 1)", x.get(2, 1), 0);
        due("get(2, 2)", x.get(2, 2), MOST);
    }

    private static void p30() {
        GateTurns x = new GateTurns();
        x.list(1, 2);
        x.set(1, 1, -7);
        due("get(1, 1)", x.get(1, 1), -7);
        due("get(1, 0)", x.get(1, 0), 0);
        due("get(1, 2)", x.get(1, 2), -1000000);
        due("get(1, -1)", x.get(1, -1), -1000000);
        due("get(0, 0)", x.get(0, 0), -1000000);
        due("get(4, 0)", x.get(4, 0), -1000000);
        due("get(-1, 0)", x.get(-1, 0), -1000000);
    }

    private static void p31() {
        GateTurns x = new GateTurns();
        due("image()", x.image(), 0);
        x.task();
        due("image()", x.image(), 1);
        x.task();
        due("back()", x.back(), 1);
        x.put(0, 5);
        due("image() again", x.image(), 1);
        x.put(0, 6);
        x.back();
        due("the latest image", x.cell(0), 5);
        x.put(0, 6);
        x.back();
        due("it stays", x.cell(0), 5);
    }

    private static void p32() {
        GateTurns x = with("enter 0;enter 0;wait 0", "enter 0;enter 1", "leave 1", "enter 1");
        due("back()", x.back(), -3);
        x.missing(2, true);
        x.put(3, -9);
        steps(x, 0, 1, 0, 0, 2, 3, 3);
        due("image()", x.image(), 4);
        due("reason", x.of(2, 4), 2);
        due("left", x.of(3, 5), 1);
        x.restart();
        x.missing(2, false);
        x.missing(1, true);
        x.put(3, 4);
        read(x, 0, "set 0 1");
        x.list(0, 1);
        x.condition(3, 2, 0);
        feedAll(x, "ab");
        due("back()", x.back(), 4);
        int[][] want = {{2, 3, 2, 0, 0, 0, 0}, {0, 1, 0, -5, 0, 0, 1}, {4, 0, 0, -5, 0, 0, 0}, {3, 1, 0, -5, 0, 0, 0}};
        for (int t = 0; t < 4; t++) {
            for (int what = 0; what < 7; what++) {
                due("of(" + t + ", " + what + ")", x.of(t, what), want[t][what]);
            }
        }
        due("missing", x.gate(2, 4), 1);
        due("there", x.gate(1, 4), 0);
        due("owner", x.gate(0, 0), 1);
        dueText("wait", row(x, 0, 1), "0");
        due("cell(3)", x.cell(3), -9);
        due("the program", x.statement(0, 2, 0), 2);
        due("the latest", x.told(5), 3);
        due("lists aren't in it", x.get(0, 0), 0);
        due("conditions aren't in it", x.told(2), 1);
        due("the tape isn't in it", x.told(1), 2);
        due("it goes on", x.step(1), 0);
        due("it has two", x.of(1, 6), 3);
        due("back()", x.back(), 4);
        due("it is unchanged", x.of(1, 6), 1);
    }

    private interface Check {
        void run();
    }

    public static void main(String[] args) {
        Check[] all = {Promises::p1, Promises::p2, Promises::p3, Promises::p4, Promises::p5, Promises::p6,
            Promises::p7, Promises::p8, Promises::p9, Promises::p10, Promises::p11, Promises::p12, Promises::p13,
            Promises::p14, Promises::p15, Promises::p16, Promises::p17, Promises::p18, Promises::p19, Promises::p20,
            Promises::p21, Promises::p22, Promises::p23, Promises::p24, Promises::p25, Promises::p26, Promises::p27,
            Promises::p28, Promises::p29, Promises::p30, Promises::p31, Promises::p32};
        for (Check check : all) {
            promise++;
            where = "promise " + promise;
            check.run();
        }
        end(promise + " promises hold");
    }
}
