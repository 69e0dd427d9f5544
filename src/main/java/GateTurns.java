import java.util.Arrays;

/** A desk of monitors, tasks and cells; see DOC.md for the words in capitals. */
public final class GateTurns {
    public static final int NONE = -1, BAD = -2, STATE = -3, FULL = -4;

    private static final int NOTHING = -11, BEYOND = -13, BELOW = -14;
    private static final int NO_SUCH = -100, NO_PLACE = -1000000, THERE_IS_NONE = -5;

    private static final int MOST_TASKS = 4, MONITORS = 3, CELLS = 4, GREATEST = 99;
    private static final int MOST_STATEMENTS = 12, MOST_BYTES = 120, MOST_STEPS = 40;
    private static final int MOST_CONDITIONS = 4, HOWS = 4, MOST_FOUND = 600;
    private static final int LISTS = 4, MOST_PLACES = 40;
    private static final int MOST_ENTERED = 9;

    private static final int READY = 0, BLOCKED = 1, WAITING = 2, DONE = 3, BROKEN = 4;
    private static final int ENTER = 0, LEAVE = 1, WAIT = 2, NOTIFY = 3, ALL = 4;
    private static final int ADD = 5, SET = 6, IF = 7, JUMP = 8, SORTS = 9;
    private static final int SORT = 0, FIRST = 1, NUMBER = 2, TARGET = 3, PARTS = 4;
    private static final int WENT_WELL = 0, IS_MISSING = 1, NOT_OWNER = 2, TOO_OFTEN = 3, TOO_FAR = 4;
    private static final int NOBODY = -1, NO_FAULT = -1, ALIKE = -1, NO_ROOM = -2;

    private final Desk now = new Desk();
    private final Desk kept = new Desk();
    private boolean hasImage = false;
    private final Reader reader = new Reader();
    private final Tape tape = reader.tape;
    private final Trouble trouble = new Trouble();
    private final Conditions conditions = new Conditions();
    private final Search search = new Search();
    private final Lists lists = new Lists();

    public GateTurns() {
    }

    // ---- tasks, monitors, cells

    public int task() {
        if (now.tasks >= MOST_TASKS) {
            return FULL;
        }
        search.forget();
        return now.newTask();
    }

    public int restart() {
        search.forget();
        now.startAgain();
        return now.tasks;
    }

    public int missing(int monitor, boolean is) {
        if (!isMonitor(monitor)) {
            return NONE;
        }
        if (now.isUsed(monitor)) {
            return STATE;
        }
        boolean was = now.missing[monitor];
        search.forget();
        now.missing[monitor] = is;
        return asNumber(was);
    }

    public int put(int cell, int v) {
        if (!isCell(cell) || !isCellNumber(v)) {
            return NO_SUCH;
        }
        int was = now.cells[cell];
        search.forget();
        now.cells[cell] = v;
        return was;
    }

    public int cell(int cell) {
        return isCell(cell) ? now.cells[cell] : NO_SUCH;
    }

    // ---- programs

    public int feed(int letter) {
        if (letter < 1 || letter > 127) {
            return BAD;
        }
        if (tape.size >= MOST_BYTES) {
            return FULL;
        }
        tape.append(letter);
        return tape.size;
    }

    public int clear() {
        int had = tape.size;
        tape.size = 0;
        return had;
    }

    public int program(int task) {
        if (!isTask(task)) {
            return NONE;
        }
        if (now.place[task] != 0 || now.status[task] != READY) {
            return STATE;
        }
        int fault = reader.read();
        tape.size = 0;
        if (fault != NO_FAULT) {
            trouble.ofProgram(task, reader.draft.size, fault);
            return NO_SUCH - fault;
        }
        search.forget();
        now.programs[task].copyFrom(reader.draft);
        return now.programs[task].size;
    }

    public int statement(int task, int k, int what) {
        return isTask(task) ? now.programs[task].part(k, what) : NO_SUCH;
    }

    // ---- steps

    public int step(int task) {
        if (!isTask(task)) {
            return NONE;
        }
        if (now.status[task] != READY) {
            return STATE;
        }
        takeTruly(task);
        return now.status[task];
    }

    public int run(int scheduler, int n) {
        if (scheduler < 0 || scheduler > 2) {
            return NONE;
        }
        if (n < 0 || n > MOST_STEPS) {
            return BAD;
        }
        for (int taken = 0; taken < n; taken++) {
            int task = now.chosenBy(scheduler);
            if (!isTask(task)) {
                return taken;
            }
            takeTruly(task);
        }
        return n;
    }

    public int follow(int list, int i, int n) {
        int refusal = lists.refusalOf(list);
        if (refusal != 0) {
            return refusal;
        }
        if (i < 0 || n < 0 || n > lists.sizes[list] - i) {
            return BEYOND;
        }
        for (int taken = 0; taken < n; taken++) {
            int task = lists.rows[list][i + taken];
            if (!isTask(task) || now.status[task] != READY) {
                return taken;
            }
            takeTruly(task);
        }
        return n;
    }

    public int of(int task, int what) {
        if (!isTask(task)) {
            return NONE;
        }
        switch (what) {
            case 0:
                return now.status[task];
            case 1:
                return now.place[task];
            case 2:
                return now.saved[task];
            case 3:
                return now.whereStands(task);
            case 4:
                return now.reason[task];
            case 5:
                return now.left[task];
            case 6:
                return now.ownedBy(task);
            default:
                return NONE;
        }
    }

    public int gate(int monitor, int what) {
        if (!isMonitor(monitor)) {
            return NONE;
        }
        switch (what) {
            case 0:
                return now.owner[monitor] == NOBODY ? THERE_IS_NONE : now.owner[monitor];
            case 1:
                return now.count[monitor];
            case 2:
                return Row.length(now.entry[monitor]);
            case 3:
                return Row.length(now.wait[monitor]);
            case 4:
                return asNumber(now.missing[monitor]);
            default:
                return NONE;
        }
    }

    public int stands(int monitor, int which, int i) {
        if (!isMonitor(monitor) || which < 0 || which > 1) {
            return NONE;
        }
        int task = Row.at(which == 0 ? now.entry[monitor] : now.wait[monitor], i);
        return task == NOBODY ? NONE : task;
    }

    public int are(int status) {
        return status < READY || status > BROKEN ? NONE : now.allThatAre(status);
    }

    public int told(int what) {
        switch (what) {
            case 0:
                return now.tasks;
            case 1:
                return tape.size;
            case 2:
                return conditions.size;
            case 3:
                return asNumber(now.sticks());
            case 4:
                return asNumber(now.isOver());
            case 5:
                return now.latest == NOBODY ? THERE_IS_NONE : now.latest;
            default:
                return NONE;
        }
    }

    public int cause(int i, int what) {
        return i < 0 || what < 0 || what > 1 ? NONE : trouble.link(i, what);
    }

    // ---- all runs

    public int found(int what) {
        if (what < 0 || what > 8) {
            return NONE;
        }
        search.explore(now, conditions);
        switch (what) {
            case 0:
                return search.states.size;
            case 1:
                return asNumber(search.all);
            case 2:
                return search.howManyStick;
            case 3:
                return search.howManyOver;
            case 4:
                return search.greatestDepth();
            case 5:
                return search.depthOf(search.sticking);
            case 6:
                return search.depthOf(search.failing);
            case 7:
                return search.howManyOutcomes;
            default:
                return asNumber(search.nested);
        }
    }

    public int schedule(int what, int i) {
        if (what < 0 || what > 1) {
            return NONE;
        }
        search.explore(now, conditions);
        int task = search.moverOf(what == 0 ? search.sticking : search.failing, i);
        return task == NOBODY ? NONE : task;
    }

    public int lay(int what, int list, int i) {
        if (what < 0 || what > 1) {
            return NONE;
        }
        int refusal = lists.refusalOf(list);
        if (refusal != 0) {
            return refusal;
        }
        search.explore(now, conditions);
        int state = what == 0 ? search.sticking : search.failing;
        int length = search.depthOf(state);
        if (length <= 0) {
            return length;
        }
        if (i < 0) {
            return BEYOND;
        }
        int places = lists.sizes[list] - i;
        for (int k = 0; k < length && k < places; k++) {
            lists.rows[list][i + k] = search.moverOf(state, k);
        }
        return length > places ? BEYOND : length;
    }

    public int outcome(int k, int cell) {
        if (k < 0 || !isCell(cell)) {
            return NO_SUCH;
        }
        search.explore(now, conditions);
        return search.cellOfOutcome(k, cell);
    }

    public int under(int monitor) {
        if (!isMonitor(monitor)) {
            return NONE;
        }
        search.explore(now, conditions);
        return search.under[monitor];
    }

    public int round() {
        search.explore(now, conditions);
        return asNumber(search.goesRound());
    }

    public int condition(int cell, int how, int v) {
        if (cell == -1) {
            search.forget();
            conditions.size = 0;
            return 0;
        }
        if (!isCell(cell) || how < 0 || how >= HOWS) {
            return NONE;
        }
        if (!isCellNumber(v)) {
            return BAD;
        }
        if (conditions.size >= MOST_CONDITIONS) {
            return FULL;
        }
        search.forget();
        conditions.append(cell, how, v);
        return conditions.size;
    }

    public int holds() {
        return asNumber(conditions.allSo(now.cells));
    }

    // ---- rows, the image

    public int list(int list, int n) {
        if (!isList(list)) {
            return NONE;
        }
        if (n > MOST_PLACES) {
            return BAD;
        }
        if (n < 0) {
            return BELOW;
        }
        lists.begin(list, n);
        return 1;
    }

    public int set(int list, int i, int v) {
        int refusal = lists.refusalOf(list);
        if (refusal != 0) {
            return refusal;
        }
        if (!lists.hasPlace(list, i)) {
            return BEYOND;
        }
        lists.rows[list][i] = v;
        return 1;
    }

    public int get(int list, int i) {
        return isList(list) && lists.hasPlace(list, i) ? lists.rows[list][i] : NO_PLACE;
    }

    public int image() {
        kept.copyFrom(now);
        kept.forgetReasons();
        hasImage = true;
        return kept.tasks;
    }

    public int back() {
        if (!hasImage) {
            return STATE;
        }
        search.forget();
        now.copyFrom(kept);
        return now.tasks;
    }

    private boolean isTask(int task) {
        return task >= 0 && task < now.tasks;
    }

    private static boolean isMonitor(int monitor) {
        return monitor >= 0 && monitor < MONITORS;
    }

    private static boolean isCell(int cell) {
        return cell >= 0 && cell < CELLS;
    }

    private static boolean isCellNumber(int v) {
        return v >= -GREATEST && v <= GREATEST;
    }

    private static boolean isList(int list) {
        return list >= 0 && list < LISTS;
    }

    private static int asNumber(boolean is) {
        return is ? 1 : 0;
    }

    /** A step outside the search: only such a one is told as TROUBLE. */
    private void takeTruly(int task) {
        search.forget();
        now.take(task);
        if (now.status[task] == BROKEN) {
            int at = now.place[task];
            trouble.ofStep(task, at, now.reason[task], now.programs[task].part(at, FIRST));
        }
    }

    /**
     * A row of tasks as one number, three bits a place, the first lowest: task + 1, or 0 behind the last.
     * So a state needs few words and no place of a row is out of bounds.
     */
    private static final class Row {
        private static final int BITS = 3, MASK = 7, ALL_BITS = BITS * MOST_TASKS;

        static int at(int row, int i) {
            return i < 0 || i >= MOST_TASKS ? NOBODY : ((row >>> (BITS * i)) & MASK) - 1;
        }

        static int length(int row) {
            int n = 0;
            for (int i = 0; i < MOST_TASKS; i++) {
                if (((row >>> (BITS * i)) & MASK) != 0) {
                    n++;
                }
            }
            return n;
        }

        static int withLast(int row, int task) {
            for (int shift = 0; shift < ALL_BITS; shift += BITS) {
                if (((row >>> shift) & MASK) == 0) {
                    return row | (task + 1) << shift;
                }
            }
            return row;
        }

        static int withoutFirst(int row) {
            return row >>> BITS;
        }

        static boolean has(int row, int task) {
            for (int i = 0; i < MOST_TASKS; i++) {
                if (((row >>> (BITS * i)) & MASK) == task + 1) {
                    return true;
                }
            }
            return false;
        }
    }

    /** The statements of a task, each as its four parts in a row. */
    private static final class Program {
        int size = 0;
        private final int[] parts = new int[MOST_STATEMENTS * PARTS];

        int part(int k, int what) {
            return k < 0 || k >= size || what < 0 || what >= PARTS ? NO_SUCH : parts[k * PARTS + what];
        }

        void append(int sort, int first, int number, int target) {
            if (size < MOST_STATEMENTS) {
                int at = size * PARTS;
                parts[at + SORT] = sort;
                parts[at + FIRST] = first;
                parts[at + NUMBER] = number;
                parts[at + TARGET] = target;
                size++;
            }
        }

        void copyFrom(Program other) {
            size = other.size;
            System.arraycopy(other.parts, 0, parts, 0, parts.length);
        }
    }

    /** All of part 1 of the document, and who took the latest step. */
    private static final class Desk {
        int tasks = 0;
        int latest = NOBODY;
        final Program[] programs = new Program[MOST_TASKS];
        final int[] place = new int[MOST_TASKS];
        final int[] status = new int[MOST_TASKS];
        final int[] saved = new int[MOST_TASKS];
        final int[] reason = new int[MOST_TASKS];
        final int[] left = new int[MOST_TASKS];
        final boolean[] missing = new boolean[MONITORS];
        final int[] owner = new int[MONITORS];
        final int[] count = new int[MONITORS];
        final int[] entry = new int[MONITORS];
        final int[] wait = new int[MONITORS];
        final int[] cells = new int[CELLS];

        Desk() {
            for (int task = 0; task < MOST_TASKS; task++) {
                programs[task] = new Program();
            }
            Arrays.fill(owner, NOBODY);
        }

        int newTask() {
            if (tasks >= MOST_TASKS) {
                return FULL;
            }
            programs[tasks].size = 0;
            tasks++;
            return tasks - 1;
        }

        void startAgain() {
            latest = NOBODY;
            Arrays.fill(place, 0);
            Arrays.fill(status, READY);
            Arrays.fill(saved, 0);
            forgetReasons();
            Arrays.fill(owner, NOBODY);
            Arrays.fill(count, 0);
            Arrays.fill(entry, 0);
            Arrays.fill(wait, 0);
            Arrays.fill(cells, 0);
        }

        void forgetReasons() {
            Arrays.fill(reason, 0);
            Arrays.fill(left, 0);
        }

        void copyFrom(Desk other) {
            tasks = other.tasks;
            latest = other.latest;
            for (int task = 0; task < MOST_TASKS; task++) {
                programs[task].copyFrom(other.programs[task]);
            }
            System.arraycopy(other.place, 0, place, 0, MOST_TASKS);
            System.arraycopy(other.status, 0, status, 0, MOST_TASKS);
            System.arraycopy(other.saved, 0, saved, 0, MOST_TASKS);
            System.arraycopy(other.reason, 0, reason, 0, MOST_TASKS);
            System.arraycopy(other.left, 0, left, 0, MOST_TASKS);
            System.arraycopy(other.owner, 0, owner, 0, MONITORS);
            System.arraycopy(other.count, 0, count, 0, MONITORS);
            System.arraycopy(other.entry, 0, entry, 0, MONITORS);
            System.arraycopy(other.wait, 0, wait, 0, MONITORS);
            System.arraycopy(other.cells, 0, cells, 0, CELLS);
            for (int monitor = 0; monitor < MONITORS; monitor++) {
                missing[monitor] = other.missing[monitor];
            }
        }

        /** One step of a task that is READY. */
        void take(int task) {
            latest = task;
            Program program = programs[task];
            int at = place[task];
            if (at >= program.size) {
                end(task, DONE);
                return;
            }
            place[task] = at + 1;
            int why = program.part(at, SORT) <= ALL
                    ? doAtMonitor(task, program.part(at, SORT), program.part(at, FIRST))
                    : doWithCells(task, program, at);
            if (why != WENT_WELL) {
                place[task] = at;
                reason[task] = why;
                end(task, BROKEN);
            }
        }

        private int doAtMonitor(int task, int sort, int monitor) {
            if (!isMonitor(monitor) || missing[monitor]) {
                return IS_MISSING;
            }
            if (sort == ENTER) {
                return enter(task, monitor);
            }
            if (owner[monitor] != task) {
                return NOT_OWNER;
            }
            if (sort == LEAVE) {
                count[monitor]--;
                if (count[monitor] == 0) {
                    free(monitor);
                }
            } else if (sort == WAIT) {
                status[task] = WAITING;
                saved[task] = count[monitor];
                wait[monitor] = Row.withLast(wait[monitor], task);
                free(monitor);
            } else {
                wake(monitor, sort == NOTIFY ? 1 : MOST_TASKS);
            }
            return WENT_WELL;
        }

        private int enter(int task, int monitor) {
            if (owner[monitor] == NOBODY) {
                owner[monitor] = task;
                count[monitor] = 1;
            } else if (owner[monitor] != task) {
                status[task] = BLOCKED;
                saved[task] = 1;
                entry[monitor] = Row.withLast(entry[monitor], task);
            } else if (count[monitor] >= MOST_ENTERED) {
                return TOO_OFTEN;
            } else {
                count[monitor]++;
            }
            return WENT_WELL;
        }

        private void wake(int monitor, int most) {
            for (int n = 0; n < most && wait[monitor] != 0; n++) {
                int task = Row.at(wait[monitor], 0);
                wait[monitor] = Row.withoutFirst(wait[monitor]);
                if (task >= 0 && task < MOST_TASKS) {
                    status[task] = BLOCKED;
                    entry[monitor] = Row.withLast(entry[monitor], task);
                }
            }
        }

        private void free(int monitor) {
            owner[monitor] = NOBODY;
            count[monitor] = 0;
            int task = Row.at(entry[monitor], 0);
            if (task >= 0 && task < MOST_TASKS) {
                entry[monitor] = Row.withoutFirst(entry[monitor]);
                owner[monitor] = task;
                count[monitor] = saved[task];
                saved[task] = 0;
                status[task] = READY;
            }
        }

        private int doWithCells(int task, Program program, int at) {
            int first = program.part(at, FIRST);
            int number = program.part(at, NUMBER);
            int sort = program.part(at, SORT);
            if (sort == JUMP) {
                place[task] = Math.min(first, program.size);
                return WENT_WELL;
            }
            if (!isCell(first)) {
                return TOO_FAR;
            }
            switch (sort) {
                case ADD:
                    if (!isCellNumber(cells[first] + number)) {
                        return TOO_FAR;
                    }
                    cells[first] += number;
                    break;
                case SET:
                    cells[first] = number;
                    break;
                default:
                    if (cells[first] != number) {
                        place[task] = Math.min(program.part(at, TARGET), program.size);
                    }
                    break;
            }
            return WENT_WELL;
        }

        private void end(int task, int how) {
            int owned = 0;
            status[task] = how;
            for (int monitor = 0; monitor < MONITORS; monitor++) {
                if (owner[monitor] == task) {
                    free(monitor);
                    owned++;
                }
            }
            left[task] = how == DONE ? owned : 0;
        }

        /** The task whose turn it is by a scheduler, or NOBODY. */
        int chosenBy(int scheduler) {
            for (int k = 0; k < tasks; k++) {
                int task = k;
                if (scheduler == 1) {
                    task = (latest + 1 + k) % tasks;
                } else if (scheduler == 2) {
                    task = tasks - 1 - k;
                }
                if (status[task] == READY) {
                    return task;
                }
            }
            return NOBODY;
        }

        boolean isUsed(int monitor) {
            return owner[monitor] != NOBODY || entry[monitor] != 0 || wait[monitor] != 0;
        }

        int whereStands(int task) {
            for (int monitor = 0; monitor < MONITORS; monitor++) {
                if (Row.has(entry[monitor], task) || Row.has(wait[monitor], task)) {
                    return monitor;
                }
            }
            return THERE_IS_NONE;
        }

        int ownedBy(int task) {
            int bits = 0;
            for (int monitor = 0; monitor < MONITORS; monitor++) {
                if (owner[monitor] == task) {
                    bits |= 1 << monitor;
                }
            }
            return bits;
        }

        int allThatAre(int wanted) {
            int bits = 0;
            for (int task = 0; task < tasks; task++) {
                if (status[task] == wanted) {
                    bits |= 1 << task;
                }
            }
            return bits;
        }

        boolean sticks() {
            return allThatAre(READY) == 0 && (allThatAre(BLOCKED) | allThatAre(WAITING)) != 0;
        }

        boolean isOver() {
            return tasks > 0 && (allThatAre(READY) | allThatAre(BLOCKED) | allThatAre(WAITING)) == 0;
        }

        /** The monitor that a READY task is about to enter, not owning it yet; NONE if there is none such. */
        int aboutToEnter(int task) {
            int at = place[task];
            if (status[task] != READY || programs[task].part(at, SORT) != ENTER) {
                return NONE;
            }
            int monitor = programs[task].part(at, FIRST);
            return isMonitor(monitor) && !missing[monitor] && owner[monitor] != task ? monitor : NONE;
        }
    }

    private static final class Tape {
        private final int[] bytes = new int[MOST_BYTES];
        int size = 0;

        void append(int letter) {
            if (size < MOST_BYTES) {
                bytes[size] = letter;
                size++;
            }
        }

        /** The byte at a place, or 0, which is no byte, where there is none. */
        int at(int i) {
            return i < 0 || i >= size ? 0 : bytes[i];
        }
    }

    /** Reads the tape from the left into a draft; once a fault is met nothing further is read. */
    private static final class Reader {
        final Tape tape = new Tape();
        final Program draft = new Program();
        private int at = 0;
        private int fault = NO_FAULT;

        /** The FAULT, or NO_FAULT; the draft has all that is whole ahead of it. */
        int read() {
            at = 0;
            fault = NO_FAULT;
            draft.size = 0;
            boolean more = true;
            for (int k = 1; k <= MOST_STATEMENTS && more; k++) {
                readStatement();
                more = k < MOST_STATEMENTS && fault == NO_FAULT && tape.at(at) == ';';
                if (more) {
                    at++;
                }
            }
            if (fault == NO_FAULT && at < tape.size) {
                fault = at;
            }
            return fault;
        }

        private void readStatement() {
            int sort = readWord();
            int first = sort == JUMP ? readTarget() : readFigureBelow(sort <= ALL ? MONITORS : CELLS);
            int number = sort == ADD || sort == SET || sort == IF ? readNumber() : 0;
            int target = sort == IF ? readTarget() : 0;
            if (fault == NO_FAULT) {
                draft.append(sort, first, number, target);
            }
        }

        private int readWord() {
            int begin = at;
            for (int n = 0; n < MOST_BYTES && tape.at(at) >= 'a' && tape.at(at) <= 'z'; n++) {
                at++;
            }
            for (int sort = 0; sort < SORTS; sort++) {
                if (isWord(wordOf(sort), begin)) {
                    return sort;
                }
            }
            fault = begin;
            return NONE;
        }

        private boolean isWord(String word, int begin) {
            if (at - begin != word.length()) {
                return false;
            }
            for (int i = 0; i < word.length(); i++) {
                if (tape.at(begin + i) != word.charAt(i)) {
                    return false;
                }
            }
            return true;
        }

        private static String wordOf(int sort) {
            switch (sort) {
                case ENTER:
                    return "enter";
                case LEAVE:
                    return "leave";
                case WAIT:
                    return "wait";
                case NOTIFY:
                    return "notify";
                case ALL:
                    return "all";
                case ADD:
                    return "add";
                case SET:
                    return "set";
                case IF:
                    return "if";
                default:
                    return "jump";
            }
        }

        private void readBlank() {
            if (fault != NO_FAULT) {
                return;
            }
            if (tape.at(at) == ' ') {
                at++;
            } else {
                fault = at;
            }
        }

        private int readFigureBelow(int bound) {
            readBlank();
            int value = takeFigures(1);
            return allowed(value, bound - 1, at - 1);
        }

        private int readTarget() {
            readBlank();
            int begin = at;
            int value = takeFigures(2);
            return allowed(value, MOST_STATEMENTS, begin);
        }

        private int readNumber() {
            readBlank();
            boolean negative = fault == NO_FAULT && tape.at(at) == '-';
            if (negative) {
                at++;
            }
            int value = takeFigures(2);
            return negative ? -value : value;
        }

        /** As many figures as stand there, up to a most; a fault where there is none. */
        private int takeFigures(int most) {
            int begin = at;
            int value = 0;
            for (int n = 0; n < most && fault == NO_FAULT && tape.at(at) >= '0' && tape.at(at) <= '9'; n++) {
                value = value * 10 + tape.at(at) - '0';
                at++;
            }
            if (at == begin && fault == NO_FAULT) {
                fault = at;
            }
            return value;
        }

        private int allowed(int value, int greatest, int begin) {
            if (fault == NO_FAULT && value > greatest) {
                fault = begin;
            }
            return value;
        }
    }

    /** The chain of causes: none, or three of them. */
    private static final class Trouble {
        private int size = 0;
        private final int[] sorts = new int[3];
        private final int[] numbers = new int[3];

        void ofProgram(int task, int whole, int fault) {
            size = 0;
            append(1, task);
            append(2, whole);
            append(3, fault);
        }

        void ofStep(int task, int place, int reason, int number) {
            size = 0;
            append(4, task);
            append(5, place);
            append(reason <= NOT_OWNER ? 6 : 7, number);
        }

        private void append(int sort, int number) {
            if (size < sorts.length) {
                sorts[size] = sort;
                numbers[size] = number;
                size++;
            }
        }

        int link(int i, int what) {
            if (i < 0 || i >= size) {
                return THERE_IS_NONE;
            }
            return what == 0 ? sorts[i] : numbers[i];
        }
    }

    private static final class Conditions {
        int size = 0;
        private final int[] cell = new int[MOST_CONDITIONS];
        private final int[] how = new int[MOST_CONDITIONS];
        private final int[] number = new int[MOST_CONDITIONS];

        void append(int ofCell, int asHow, int v) {
            if (size < MOST_CONDITIONS) {
                cell[size] = ofCell;
                how[size] = asHow;
                number[size] = v;
                size++;
            }
        }

        boolean allSo(int[] cells) {
            for (int i = 0; i < size; i++) {
                if (isCell(cell[i]) && !isSo(how[i], cells[cell[i]], number[i])) {
                    return false;
                }
            }
            return true;
        }

        private static boolean isSo(int how, int is, int v) {
            switch (how) {
                case 0:
                    return is < v;
                case 1:
                    return is == v;
                case 2:
                    return is > v;
                default:
                    return is != v;
            }
        }
    }

    /** The states FOUND, each packed into six words, and a table of slots by which an alike one is met soon. */
    private static final class States {
        private static final int WORDS = 6, CELLS_WORD = 5, SLOTS = 2048;
        private static final int TASK_BITS = 11, CELL_BITS = 8, CELL_MASK = 255;

        int size = 0;
        private final int[] words = new int[MOST_FOUND * WORDS];
        private final int[] draft = new int[WORDS];
        /** A state's number + 1 in each, 0 where none is. */
        private final int[] slots = new int[SLOTS];

        void empty() {
            size = 0;
            Arrays.fill(slots, 0);
        }

        /** The number of a state that is unlike all kept yet; ALIKE, or NO_ROOM. */
        int keep(Desk desk) {
            pack(desk);
            int slot = firstSlot();
            for (int tries = 0; tries < SLOTS && slots[slot] != 0; tries++) {
                if (isDraft(slots[slot] - 1)) {
                    return ALIKE;
                }
                slot = (slot + 1) & (SLOTS - 1);
            }
            if (size >= MOST_FOUND) {
                return NO_ROOM;
            }
            System.arraycopy(draft, 0, words, size * WORDS, WORDS);
            size++;
            slots[slot] = size;
            return size - 1;
        }

        private int firstSlot() {
            int mixed = 0;
            for (int w = 0; w < WORDS; w++) {
                mixed = (mixed ^ draft[w]) * 0x9E3779B1;
                mixed ^= mixed >>> 15;
            }
            return mixed & (SLOTS - 1);
        }

        private boolean isDraft(int state) {
            for (int w = 0; w < WORDS; w++) {
                if (words[state * WORDS + w] != draft[w]) {
                    return false;
                }
            }
            return true;
        }

        private void pack(Desk desk) {
            draft[0] = packedTask(desk, 0) | packedTask(desk, 1) << TASK_BITS;
            draft[1] = packedTask(desk, 2) | packedTask(desk, 3) << TASK_BITS;
            for (int m = 0; m < MONITORS; m++) {
                draft[2 + m] = desk.owner[m] + 1 | desk.count[m] << 3 | desk.entry[m] << 7 | desk.wait[m] << 19;
            }
            draft[CELLS_WORD] = packedCells(desk.cells);
        }

        private static int packedTask(Desk desk, int task) {
            return desk.place[task] | desk.status[task] << 4 | desk.saved[task] << 7;
        }

        static int packedCells(int[] cells) {
            int word = 0;
            for (int c = 0; c < CELLS; c++) {
                word |= (cells[c] + GREATEST) << (CELL_BITS * c);
            }
            return word;
        }

        static int unpackedCell(int word, int cell) {
            return ((word >>> (CELL_BITS * cell)) & CELL_MASK) - GREATEST;
        }

        void unpack(int state, Desk desk) {
            if (state < 0 || state >= size) {
                return;
            }
            int at = state * WORDS;
            for (int task = 0; task < MOST_TASKS; task++) {
                int word = words[at + (task >> 1)] >>> (TASK_BITS * (task & 1));
                desk.place[task] = word & 15;
                desk.status[task] = (word >>> 4) & 7;
                desk.saved[task] = (word >>> 7) & 15;
            }
            for (int m = 0; m < MONITORS; m++) {
                int word = words[at + 2 + m];
                desk.owner[m] = (word & 7) - 1;
                desk.count[m] = (word >>> 3) & 15;
                desk.entry[m] = (word >>> 7) & 4095;
                desk.wait[m] = word >>> 19;
            }
            for (int c = 0; c < CELLS; c++) {
                desk.cells[c] = unpackedCell(words[at + CELLS_WORD], c);
            }
        }
    }

    /** All runs gone through; what it learnt stays till it is told to forget, since most questions come in rows. */
    private static final class Search {
        private boolean known = false;
        private final Desk desk = new Desk();
        final States states = new States();
        private final int[] cameFrom = new int[MOST_FOUND];
        private final int[] mover = new int[MOST_FOUND];
        private final int[] depth = new int[MOST_FOUND];
        private final int[] outcomes = new int[MOST_FOUND];
        final int[] under = new int[MONITORS];
        boolean all = true;
        boolean nested = false;
        int sticking = NONE;
        int failing = NONE;
        int howManyStick = 0;
        int howManyOver = 0;
        int howManyOutcomes = 0;

        void forget() {
            known = false;
        }

        void explore(Desk now, Conditions conditions) {
            if (known) {
                return;
            }
            begin(now);
            note(states.keep(desk), 0, NOBODY, conditions);
            for (int k = 0; k < MOST_FOUND && k < states.size && all; k++) {
                for (int task = 0; task < desk.tasks && all; task++) {
                    states.unpack(k, desk);
                    if (desk.status[task] == READY) {
                        desk.take(task);
                        note(states.keep(desk), k, task, conditions);
                    }
                }
            }
            known = true;
        }

        private void begin(Desk now) {
            desk.copyFrom(now);
            states.empty();
            Arrays.fill(under, 0);
            all = true;
            nested = false;
            sticking = NONE;
            failing = NONE;
            howManyStick = 0;
            howManyOver = 0;
            howManyOutcomes = 0;
        }

        /** Takes down what is to be known of the state that the desk is in, if it was kept as a new one. */
        private void note(int state, int from, int task, Conditions conditions) {
            if (state == NO_ROOM) {
                all = false;
            }
            if (state < 0 || state >= MOST_FOUND) {
                return;
            }
            cameFrom[state] = from;
            mover[state] = task;
            depth[state] = task == NOBODY ? 0 : depth[from] + 1;
            if (desk.sticks()) {
                howManyStick++;
                sticking = sticking == NONE ? state : sticking;
            }
            if (failing == NONE && !conditions.allSo(desk.cells)) {
                failing = state;
            }
            if (desk.isOver()) {
                howManyOver++;
                noteOutcome();
            }
            noteMonitors();
        }

        private void noteOutcome() {
            int word = States.packedCells(desk.cells);
            for (int k = 0; k < howManyOutcomes; k++) {
                if (outcomes[k] == word) {
                    return;
                }
            }
            if (howManyOutcomes < MOST_FOUND) {
                outcomes[howManyOutcomes] = word;
                howManyOutcomes++;
            }
        }

        private void noteMonitors() {
            for (int monitor = 0; monitor < MONITORS; monitor++) {
                nested = nested || desk.count[monitor] >= 2;
            }
            for (int task = 0; task < desk.tasks; task++) {
                int entered = desk.aboutToEnter(task);
                for (int monitor = 0; monitor < MONITORS && entered != NONE; monitor++) {
                    if (desk.owner[monitor] == task) {
                        under[monitor] |= 1 << entered;
                    }
                }
            }
        }

        int greatestDepth() {
            return depthOf(states.size - 1);
        }

        int depthOf(int state) {
            return isFound(state) ? depth[state] : THERE_IS_NONE;
        }

        private boolean isFound(int state) {
            return state >= 0 && state < states.size;
        }

        /** The i-th task of the schedule of a state, or NOBODY. */
        int moverOf(int state, int i) {
            int length = depthOf(state);
            if (i < 0 || i >= length) {
                return NOBODY;
            }
            int at = state;
            for (int k = length - 1; k > i && isFound(at); k--) {
                at = cameFrom[at];
            }
            return isFound(at) ? mover[at] : NOBODY;
        }

        int cellOfOutcome(int k, int cell) {
            return k < 0 || k >= howManyOutcomes ? NO_SUCH : States.unpackedCell(outcomes[k], cell);
        }

        /** Each pass over all monitors adds what stands one further on, so as many passes as monitors suffice. */
        boolean goesRound() {
            boolean round = false;
            for (int begin = 0; begin < MONITORS; begin++) {
                int reached = under[begin];
                for (int pass = 0; pass < MONITORS; pass++) {
                    for (int monitor = 0; monitor < MONITORS; monitor++) {
                        reached |= (reached >>> monitor & 1) == 1 ? under[monitor] : 0;
                    }
                }
                round = round || (reached >>> begin & 1) == 1;
            }
            return round;
        }
    }

    private static final class Lists {
        /** NOTHING where there is no row. */
        final int[] sizes = new int[LISTS];
        final int[][] rows = new int[LISTS][MOST_PLACES];

        Lists() {
            Arrays.fill(sizes, NOTHING);
        }

        /** NONE or NOTHING, or 0 where there is a row. */
        int refusalOf(int list) {
            if (!isList(list)) {
                return NONE;
            }
            return sizes[list] < 0 ? NOTHING : 0;
        }

        boolean hasPlace(int list, int i) {
            return i >= 0 && i < sizes[list];
        }

        void begin(int list, int n) {
            sizes[list] = n;
            Arrays.fill(rows[list], 0);
        }
    }
}
