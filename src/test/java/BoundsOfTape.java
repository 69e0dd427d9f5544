/** The bounds that part 2 of the document's Terms names of THE TAPE, a PROGRAM's text and its FAULT. */
public final class BoundsOfTape extends Checks {
    private static final String[] WORDS = {"enter", "leave", "wait", "notify", "all", "add", "set", "if", "jump"};
    private static final String[] RESTS = {" 0", " 0", " 0", " 0", " 0", " 0 1", " 0 1", " 0 1 2", " 2"};

    private static String shown(String text) {
        StringBuilder s = new StringBuilder("'");
        for (char c : text.toCharArray()) {
            s.append(c < 32 || c > 126 ? "<" + (int) c + ">" : "" + c);
        }
        return s.append('\'').toString();
    }

    private static void good(String text, int statements) {
        GateTurns x = with("");
        due(shown(text), read(x, 0, text), statements);
        due("the last of " + shown(text), x.statement(0, statements - 1, 0) >= 0 ? 1 : 0, 1);
        due("none behind it", x.statement(0, statements, 0), NO_SUCH);
        dueText("TROUBLE", cause(x), "");
        due("THE TAPE", x.told(1), 0);
    }

    /** A FAULT at a place; so many STATEMENTS are whole ahead of it. The PROGRAM that was there stays. */
    private static void fault(String text, int place, int whole) {
        GateTurns x = with("", "set 3 7");
        due(shown(text), read(x, 1, text), -100 - place);
        dueText("TROUBLE of " + shown(text), cause(x), "1:1 2:" + whole + " 3:" + place);
        due("THE TAPE", x.told(1), 0);
        due("the PROGRAM", x.statement(1, 0, 2), 7);
        due("no more of it", x.statement(1, 1, 0), NO_SUCH);
    }

    /** Terms 2: "A PROGRAM is read from THE TAPE (120 bytes at most)" */
    private static void bytesAre120AtMost() {
        GateTurns x = with("");
        for (int n = 1; n <= 120; n++) {
            due("feed", x.feed('a'), n);
        }
        due("one more", x.feed('a'), FULL);
        due("told(1)", x.told(1), 120);
        due("all of it is one word", x.program(0), -100);
        due("feed behind that", x.feed('a'), 1);
        // eleven and the ; behind each are 110 bytes
        good(times(11, "add 0 -10") + ";add 0 -10", 12);
        GateTurns y = with("");
        feedAll(y, times(11, "add 0 -10") + ";add 0 -100");
        due("told(1)", y.told(1), 120);
        due("the 120th byte is looked at", y.program(0), -219);
        GateTurns z = with("");
        feedAll(z, times(11, "add 0 -10") + ";add 0 -1000");
        due("told(1)", z.told(1), 120);
        due("the 121st isn't there", z.program(0), -219);
        GateTurns w = with("");
        feedAll(w, times(8, "if 0 -10 12") + ";jump 12;notify 0;add 1 1");
        due("told(1)", w.told(1), 120);
        due("the 120th byte makes it whole", w.program(0), 11);
        due("its last number", w.statement(0, 10, 2), 1);
    }

    /** Terms 2: "STATEMENTS as above, 12 at most, one at least, parted by ;" */
    private static void statementsAreOneToTwelve() {
        fault("", 0, 0);
        good("all 2", 1);
        good("all 2;all 2", 2);
        good(times(11, "all 2"), 11);
        good(times(12, "all 2"), 12);
        fault(times(13, "all 2"), 71, 12);
        fault("all 2,all 2", 5, 1);
        fault("all 2 all 2", 5, 1);
        fault("all 2all 2", 5, 1);
        fault("all 2;;all 2", 6, 1);
        fault(";all 2", 0, 0);
    }

    /** Terms 2: "one blank ahead of each number" */
    private static void oneBlankAhead() {
        String[] forms = {"enter_0", "add 0_1", "add_0 1", "set 0_-1", "if_0 0 0", "if 0_0 0", "if 0 12_0", "jump_0"};
        for (String form : forms) {
            int at = form.indexOf('_');
            good(form.replace("_", " "), 1);
            fault(form.replace("_", ""), at, 0);
            fault(form.replace("_", "  "), at + 1, 0);
            fault(form.replace('_', '\t'), at, 0);
            fault(form.replace('_', '!'), at, 0);
            fault(form.replace("_", " \u001f"), at + 1, 0);
        }
        fault("enter 0 ", 7, 1);
        fault("enter 0; leave 0", 8, 1);
        fault(" enter 0", 0, 0);
        fault("enter 0 ;leave 0", 7, 1);
    }

    /** Terms 2: "read from the left, the first FAULT that is met is told" */
    private static void theFirstFault() {
        fault("enter 3;leave 3;xx", 6, 0);
        fault("enter 2;leave 3;xx", 14, 1);
        fault("enter 2;leave 2;xx", 16, 2);
        fault("add 4 -;set 9 100", 4, 0);
        fault("if 4 100 13", 3, 0);
        fault("if 3 100 13", 7, 0);
        fault("if 3 99 13", 8, 0);
        fault("if 3 99 12x", 10, 1);
    }

    /** Terms 2: "M, V one figure; N 1 or 2 figures; K 1 or 2 figures." */
    private static void howManyFigures() {
        String[] forms = {"wait _", "add _ 5", "set 0 _", "add 0 -_", "if 0 _ 2", "if 0 0 _", "jump _"};
        int[] most = {1, 1, 2, 2, 2, 2, 2};
        for (int k = 0; k < forms.length; k++) {
            int at = forms[k].indexOf('_');
            boolean isLast = at == forms[k].length() - 1;
            fault(forms[k].replace("_", ""), at, 0);
            good(forms[k].replace("_", "1"), 1);
            if (most[k] == 2) {
                good(forms[k].replace("_", "01"), 1);
                good(forms[k].replace("_", "00"), 1);
                good(forms[k].replace("_", "12"), 1);
                fault(forms[k].replace("_", "001"), at + 2, isLast ? 1 : 0);
                fault(forms[k].replace("_", "123"), at + 2, isLast ? 1 : 0);
            } else {
                fault(forms[k].replace("_", "01"), at + 1, isLast ? 1 : 0);
                fault(forms[k].replace("_", "00"), at + 1, isLast ? 1 : 0);
            }
        }
    }

    /** Terms 2: "FAULT: of a word (as many letters a .. z as stand there) that is none of these, an M, V, K that may not be,
     * where it begins (an empty word, too)" */
    private static void wordsThatAreNone() {
        for (int k = 0; k < WORDS.length; k++) {
            String word = WORDS[k];
            good(word + RESTS[k], 1);
            fault(word + "a" + RESTS[k], 0, 0);
            fault(word + "z" + RESTS[k], 0, 0);
            fault("a" + word + RESTS[k], 0, 0);
            fault("z" + word + RESTS[k], 0, 0);
            fault(word.substring(1) + RESTS[k], 0, 0);
            fault(word.substring(0, word.length() - 1) + RESTS[k], 0, 0);
            fault(word.substring(0, word.length() - 1), 0, 0);
            fault(word.toUpperCase() + RESTS[k], 0, 0);
            fault("all 0;" + word + "s" + RESTS[k], 6, 1);
            // the signs right ahead of a and behind z are no letters: the word ends there
            fault(word + "`" + RESTS[k], word.length(), 0);
            fault(word + "{" + RESTS[k], word.length(), 0);
            fault(word + "A" + RESTS[k], word.length(), 0);
            for (int i = 0; i < word.length(); i++) {
                char other = word.charAt(i) == 'q' ? 'r' : 'q';
                fault(word.substring(0, i) + other + word.substring(i + 1) + RESTS[k], 0, 0);
            }
        }
        fault("q", 0, 0);
        fault("all 0;0", 6, 1);
        fault("all 0;\u007f", 6, 1);
        fault("\u0001", 0, 0);
        fault("enterleave 0", 0, 0);
    }

    /** Terms 2: "FAULT: of a word (as many letters a .. z as stand there) that is none of these, an M, V, K that may not be,
     * where it begins (an empty word, too)" */
    private static void numbersThatMayNotBe() {
        for (int k = 0; k < 5; k++) {
            int at = WORDS[k].length() + 1;
            good(WORDS[k] + " 2", 1);
            fault(WORDS[k] + " 3", at, 0);
            fault(WORDS[k] + " 9", at, 0);
            fault(WORDS[k] + " -1", at, 0);
            fault(WORDS[k] + " /", at, 0);
            fault(WORDS[k] + " :", at, 0);
        }
        for (int k = 5; k < 8; k++) {
            int at = WORDS[k].length() + 1;
            String rest = k == 7 ? " 0 0" : " 0";
            good(WORDS[k] + " 3" + rest, 1);
            fault(WORDS[k] + " 4" + rest, at, 0);
            fault(WORDS[k] + " 9" + rest, at, 0);
            fault(WORDS[k] + " -1" + rest, at, 0);
        }
        for (String form : new String[] {"jump ", "if 3 -99 "}) {
            good(form + "0", 1);
            good(form + "12", 1);
            good(form + "09", 1);
            fault(form + "13", form.length(), 0);
            fault(form + "99", form.length(), 0);
            fault(form + "-0", form.length(), 0);
        }
    }

    /** Terms 2: "else the place (from 0) of the first byte with which no such text goes on (a ; behind twelve, too)" */
    private static void bytesWithWhichNoTextGoesOn() {
        fault("enter;", 5, 0);
        fault("enter ;", 6, 0);
        fault("enter 1.", 7, 1);
        fault("add 1;", 5, 0);
        fault("add 1 ;", 6, 0);
        fault("add 1 -;", 7, 0);
        fault("add 1 --1", 7, 0);
        fault("add 1 +1", 6, 0);
        fault("add 1 1-", 7, 1);
        fault("if 1 1;", 6, 0);
        fault("if 1 1 ;", 7, 0);
        fault("if 1 1 1 ", 8, 1);
        fault("jump;", 4, 0);
        fault("jump 1;jump 1\u0001", 13, 2);
        String eleven = times(11, "all 0");
        fault(eleven + ";", 66, 11);
        good(eleven + ";all 0", 12);
        fault(eleven + ";all 0;", 71, 12);
        fault(eleven + ";all 0;x", 71, 12);
        fault(eleven + ";all 0x", 71, 12);
        fault(eleven + ";all 00", 71, 12);
    }

    /** Terms 2: "the length, if it ends too early (whatever would begin there)" */
    private static void endsTooEarly() {
        fault("", 0, 0);
        for (int k = 0; k < WORDS.length; k++) {
            String whole = WORDS[k] + RESTS[k];
            for (int length = WORDS[k].length(); length < whole.length(); length++) {
                fault(whole.substring(0, length), length, 0);
                fault("all 0;" + whole.substring(0, length), 6 + length, 1);
            }
            good(whole, 1);
            fault(whole + ";", whole.length() + 1, 1);
        }
        fault("set 0 -", 7, 0);
        good("set 0 -5", 1);
    }

    /** Terms 2: "Of an M, V one figure is taken, of an N, K two at most, and looked at ahead of the byte behind." */
    private static void takenAndLookedAtFirst() {
        fault("enter 33", 6, 0);
        fault("enter 3x", 6, 0);
        fault("enter 23", 7, 1);
        fault("add 44 1", 4, 0);
        fault("add 34 1", 5, 0);
        fault("add 3 999", 8, 1);
        fault("add 3 -999", 9, 1);
        fault("jump 130", 5, 0);
        fault("jump 13x", 5, 0);
        fault("jump 120", 7, 1);
        fault("jump 1x", 6, 1);
        fault("if 0 0 130", 7, 0);
        fault("if 0 0 120", 9, 1);
        fault("if 0 100 13", 7, 0);
    }

    /** Terms 2: "of a PROGRAM 1 (the TASK) by 2 (how many STATEMENTS are whole ahead of the FAULT, one right ahead of it,
     * too) by 3 (the FAULT)" */
    private static void wholeAheadOfTheFault() {
        for (int whole = 0; whole <= 12; whole++) {
            String text = times(whole, "all 0");
            fault(text + (whole == 0 ? "" : ";"), whole == 0 ? 0 : 6 * whole - (whole == 12 ? 1 : 0), whole);
            if (whole > 0) {
                fault(text + "!", 6 * whole - 1, whole);
                fault(text.substring(0, text.length() - 1), 6 * whole - 2, whole - 1);
                fault(text.substring(0, text.length() - 1) + "3", 6 * whole - 2, whole - 1);
            }
        }
        for (int task = 0; task < 4; task++) {
            GateTurns x = with("", "", "", "");
            due("the FAULT", read(x, task, "jump 12;add"), -111);
            dueText("the TASK", cause(x), "1:" + task + " 2:1 3:11");
        }
    }

    public static void main(String[] args) throws ReflectiveOperationException {
        runAll(BoundsOfTape.class);
    }
}
