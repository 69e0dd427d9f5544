import java.util.ArrayList;
import java.util.Arrays;
import java.util.LinkedHashMap;
import java.util.List;
import java.util.Map;
import java.util.Random;
import java.util.TreeSet;
import java.util.regex.Matcher;
import java.util.regex.Pattern;

/**
 * Random runs of up to 512 calls, each answer compared with that of a slow model written straight from DOC.md:
 * rows are lists, states are texts, nothing is remembered between questions.
 */
public final class AgainstModel {
    private static final List<String> WORDS =
            List.of("enter", "leave", "wait", "notify", "all", "add", "set", "if", "jump");

    private static final class Task {
        int[][] program = {};
        int place, status, saved, reason, left;

        Task copy() {
            Task t = new Task();
            t.program = program;
            t.place = place;
            t.status = status;
            t.saved = saved;
            t.reason = reason;
            t.left = left;
            return t;
        }
    }

    private static final class Monitor {
        boolean missing;
        int owner = -5, count;
        List<Integer> entry = new ArrayList<>(), wait = new ArrayList<>();

        Monitor copy() {
            Monitor m = new Monitor();
            m.missing = missing;
            m.owner = owner;
            m.count = count;
            m.entry = new ArrayList<>(entry);
            m.wait = new ArrayList<>(wait);
            return m;
        }
    }

    private static final class World {
        final List<Task> tasks = new ArrayList<>();
        final Monitor[] monitors = {new Monitor(), new Monitor(), new Monitor()};
        int[] cells = new int[4];
        int latest = -5;

        World copy() {
            World w = new World();
            for (Task t : tasks) {
                w.tasks.add(t.copy());
            }
            for (int m = 0; m < 3; m++) {
                w.monitors[m] = monitors[m].copy();
            }
            w.cells = cells.clone();
            w.latest = latest;
            return w;
        }

        String key() {
            StringBuilder s = new StringBuilder();
            for (Task t : tasks) {
                s.append(t.place).append(',').append(t.status).append(',').append(t.saved).append(';');
            }
            for (Monitor m : monitors) {
                s.append(m.owner).append(',').append(m.count).append(m.entry).append(m.wait).append(';');
            }
            return s.append(Arrays.toString(cells)).toString();
        }

        void free(Monitor m) {
            m.owner = -5;
            m.count = 0;
            if (!m.entry.isEmpty()) {
                m.owner = m.entry.remove(0);
                Task t = tasks.get(m.owner);
                m.count = t.saved;
                t.saved = 0;
                t.status = 0;
            }
        }

        /** The reason that it breaks by, or 0. */
        int step(int number) {
            latest = number;
            Task t = tasks.get(number);
            int why = 0;
            if (t.place == t.program.length) {
                t.status = 3;
            } else {
                int[] s = t.program[t.place];
                why = s[0] < 5 ? gates(number, t, s[0], monitors[s[1]]) : counts(t, s);
                if (why != 0) {
                    t.status = 4;
                    t.reason = why;
                }
            }
            if (t.status >= 3) {
                for (Monitor m : monitors) {
                    if (m.owner == number) {
                        t.left += t.status == 3 ? 1 : 0;
                        free(m);
                    }
                }
            }
            return why;
        }

        int gates(int number, Task t, int sort, Monitor m) {
            if (m.missing) {
                return 1;
            }
            if (sort != 0 && m.owner != number) {
                return 2;
            }
            if (sort == 0 && m.owner == number && m.count == 9) {
                return 3;
            }
            t.place++;
            if (sort == 0 && (m.owner == -5 || m.owner == number)) {
                m.owner = number;
                m.count++;
            } else if (sort == 0) {
                m.entry.add(number);
                t.status = 1;
                t.saved = 1;
            } else if (sort == 1) {
                m.count--;
                if (m.count == 0) {
                    free(m);
                }
            } else if (sort == 2) {
                m.wait.add(number);
                t.status = 2;
                t.saved = m.count;
                free(m);
            } else {
                while (!m.wait.isEmpty()) {
                    int first = m.wait.remove(0);
                    tasks.get(first).status = 1;
                    m.entry.add(first);
                    if (sort == 3) {
                        break;
                    }
                }
            }
            return 0;
        }

        int counts(Task t, int[] s) {
            if (s[0] == 5) {
                int sum = cells[s[1]] + s[2];
                if (sum < -99 || sum > 99) {
                    return 4;
                }
                cells[s[1]] = sum;
                t.place++;
            } else if (s[0] == 6) {
                cells[s[1]] = s[2];
                t.place++;
            } else if (s[0] == 7 && cells[s[1]] == s[2]) {
                t.place++;
            } else {
                int k = s[0] == 7 ? s[3] : s[1];
                t.place = k > t.program.length ? t.program.length : k;
            }
            return 0;
        }

        boolean any(int... statuses) {
            for (Task t : tasks) {
                for (int s : statuses) {
                    if (t.status == s) {
                        return true;
                    }
                }
            }
            return false;
        }

        boolean sticks() {
            return !any(0) && any(1, 2);
        }

        boolean over() {
            return !tasks.isEmpty() && !any(0, 1, 2);
        }
    }

    private static final class Model {
        World w = new World();
        World image = null;
        String tape = "";
        int[][] trouble = {};
        final List<int[]> conditions = new ArrayList<>();
        final int[][] lists = new int[4][];

        // what is FOUND, asked anew each time
        final Map<String, World> found = new LinkedHashMap<>();
        final Map<String, List<Integer>> schedules = new LinkedHashMap<>();
        boolean all;

        void find() {
            found.clear();
            schedules.clear();
            all = true;
            List<String> keys = new ArrayList<>();
            keys.add(w.key());
            found.put(w.key(), w.copy());
            schedules.put(w.key(), new ArrayList<>());
            for (int k = 0; k < keys.size(); k++) {
                World from = found.get(keys.get(k));
                for (int t = 0; t < from.tasks.size(); t++) {
                    if (from.tasks.get(t).status == 0) {
                        World next = from.copy();
                        next.step(t);
                        String key = next.key();
                        if (!found.containsKey(key)) {
                            if (found.size() == 600) {
                                all = false;
                                return;
                            }
                            keys.add(key);
                            found.put(key, next);
                            List<Integer> way = new ArrayList<>(schedules.get(keys.get(k)));
                            way.add(t);
                            schedules.put(key, way);
                        }
                    }
                }
            }
        }

        boolean so(World x) {
            for (int[] c : conditions) {
                int is = x.cells[c[0]];
                boolean so = c[1] == 0 ? is < c[2] : c[1] == 1 ? is == c[2] : c[1] == 2 ? is > c[2] : is != c[2];
                if (!so) {
                    return false;
                }
            }
            return true;
        }

        /** The schedule of STICKING (0) or FAILING (1), null if there is none. */
        List<Integer> way(int what) {
            find();
            for (Map.Entry<String, World> e : found.entrySet()) {
                if (what == 0 ? e.getValue().sticks() : !so(e.getValue())) {
                    return schedules.get(e.getKey());
                }
            }
            return null;
        }

        List<String> outcomes() {
            find();
            List<String> out = new ArrayList<>();
            for (World x : found.values()) {
                String cells = Arrays.toString(x.cells);
                if (x.over() && !out.contains(cells)) {
                    out.add(cells);
                }
            }
            return out;
        }

        int found(int what) {
            if (what < 0 || what > 8) {
                return -1;
            }
            List<Integer> way = what == 5 || what == 6 ? way(what - 5) : null;
            if (what == 5 || what == 6) {
                return way == null ? -5 : way.size();
            }
            find();
            int stick = 0, over = 0, deep = 0, nested = 0;
            for (Map.Entry<String, World> e : found.entrySet()) {
                stick += e.getValue().sticks() ? 1 : 0;
                over += e.getValue().over() ? 1 : 0;
                deep = Math.max(deep, schedules.get(e.getKey()).size());
                for (Monitor m : e.getValue().monitors) {
                    nested = m.count >= 2 ? 1 : nested;
                }
            }
            return new int[] {found.size(), all ? 1 : 0, stick, over, deep, 0, 0, outcomes().size(), nested}[what];
        }

        int under(int monitor) {
            if (monitor < 0 || monitor > 2) {
                return -1;
            }
            find();
            int bits = 0;
            for (World x : found.values()) {
                for (int t = 0; t < x.tasks.size(); t++) {
                    Task task = x.tasks.get(t);
                    if (task.status == 0 && task.place < task.program.length && x.monitors[monitor].owner == t) {
                        int[] s = task.program[task.place];
                        if (s[0] == 0 && !x.monitors[s[1]].missing && x.monitors[s[1]].owner != t) {
                            bits |= 1 << s[1];
                        }
                    }
                }
            }
            return bits;
        }

        int round() {
            int[] u = {under(0), under(1), under(2)};
            boolean round = false;
            for (int a = 0; a < 3; a++) {
                for (int b = 0; b < 3; b++) {
                    for (int c = 0; c < 3; c++) {
                        boolean ab = (u[a] >> b & 1) == 1, bc = (u[b] >> c & 1) == 1;
                        round |= ab && (u[b] >> a & 1) == 1 || ab && bc && (u[c] >> a & 1) == 1;
                    }
                }
            }
            return round ? 1 : 0;
        }

        boolean task(int t) {
            return t >= 0 && t < w.tasks.size();
        }

        int program(int t) {
            if (!task(t)) {
                return -1;
            }
            if (w.tasks.get(t).place != 0 || w.tasks.get(t).status != 0) {
                return -3;
            }
            List<int[]> read = new ArrayList<>();
            int fault = fault(tape, read);
            tape = "";
            if (fault >= 0) {
                trouble = new int[][] {{1, t}, {2, read.size()}, {3, fault}};
                return -100 - fault;
            }
            w.tasks.get(t).program = read.toArray(new int[0][]);
            return read.size();
        }

        /** The FAULT, or -1; the whole statements ahead of it come into read. */
        static int fault(String text, List<int[]> read) {
            int at = 0;
            while (true) {
                Matcher m = Pattern.compile("[a-z]*").matcher(text).region(at, text.length());
                m.lookingAt();
                int sort = WORDS.indexOf(m.group());
                if (sort < 0) {
                    return at;
                }
                at = m.end();
                int[] s = {sort, 0, 0, 0};
                String form = sort < 5 ? "M" : sort < 7 ? "VN" : sort == 7 ? "VNK" : "K";
                for (int i = 0; i < form.length(); i++) {
                    if (at == text.length() || text.charAt(at) != ' ') {
                        return at;
                    }
                    at++;
                    char kind = form.charAt(i);
                    if (kind == 'N' && at < text.length() && text.charAt(at) == '-') {
                        at++;
                    }
                    String figures = kind == 'M' || kind == 'V' ? "[0-9]" : "[0-9][0-9]?";
                    Matcher f = Pattern.compile(figures).matcher(text).region(at, text.length());
                    if (!f.lookingAt()) {
                        return at;
                    }
                    int value = Integer.parseInt(f.group());
                    if (value > (kind == 'M' ? 2 : kind == 'V' ? 3 : kind == 'K' ? 12 : 99)) {
                        return at;
                    }
                    boolean minus = kind == 'N' && text.charAt(at - 1) == '-';
                    s[kind == 'K' && sort == 7 ? 3 : kind == 'N' ? 2 : 1] = minus ? -value : value;
                    at = f.end();
                }
                read.add(s);
                if (at == text.length()) {
                    return -1;
                }
                if (text.charAt(at) != ';' || read.size() == 12) {
                    return at;
                }
                at++;
            }
        }

        int step(int t) {
            if (!task(t)) {
                return -1;
            }
            Task task = w.tasks.get(t);
            if (task.status != 0) {
                return -3;
            }
            int why = w.step(t);
            if (why != 0) {
                trouble = new int[][] {{4, t}, {5, task.place}, {why < 3 ? 6 : 7, task.program[task.place][1]}};
            }
            return task.status;
        }

        int run(int scheduler, int n) {
            if (scheduler < 0 || scheduler > 2) {
                return -1;
            }
            if (n < 0 || n > 40) {
                return -2;
            }
            int taken = 0;
            while (taken < n && w.any(0)) {
                TreeSet<Integer> ready = new TreeSet<>();
                for (int t = 0; t < w.tasks.size(); t++) {
                    if (w.tasks.get(t).status == 0) {
                        ready.add(t);
                    }
                }
                Integer next = ready.higher(w.latest);
                step(scheduler == 0 || scheduler == 1 && next == null ? ready.first()
                        : scheduler == 1 ? next : ready.last());
                taken++;
            }
            return taken;
        }

        int follow(int l, int i, int n) {
            if (l < 0 || l > 3) {
                return -1;
            }
            if (lists[l] == null) {
                return -11;
            }
            if (i < 0 || n < 0 || (long) i + n > lists[l].length) {
                return -13;
            }
            for (int k = 0; k < n; k++) {
                if (step(lists[l][i + k]) < 0) {
                    return k;
                }
            }
            return n;
        }

        int of(int t, int what) {
            if (!task(t) || what < 0 || what > 6) {
                return -1;
            }
            int stands = -5, owns = 0;
            for (int m = 0; m < 3; m++) {
                stands = w.monitors[m].entry.contains(t) || w.monitors[m].wait.contains(t) ? m : stands;
                owns |= w.monitors[m].owner == t ? 1 << m : 0;
            }
            Task x = w.tasks.get(t);
            return new int[] {x.status, x.place, x.saved, stands, x.reason, x.left, owns}[what];
        }

        int gate(int m, int what) {
            if (m < 0 || m > 2 || what < 0 || what > 4) {
                return -1;
            }
            Monitor x = w.monitors[m];
            return new int[] {x.owner, x.count, x.entry.size(), x.wait.size(), x.missing ? 1 : 0}[what];
        }

        int stands(int m, int which, int i) {
            if (m < 0 || m > 2 || which < 0 || which > 1 || i < 0) {
                return -1;
            }
            List<Integer> row = which == 0 ? w.monitors[m].entry : w.monitors[m].wait;
            return i < row.size() ? row.get(i) : -1;
        }

        int are(int status) {
            int bits = 0;
            for (int t = 0; t < w.tasks.size(); t++) {
                bits |= w.tasks.get(t).status == status ? 1 << t : 0;
            }
            return status < 0 || status > 4 ? -1 : bits;
        }

        int told(int what) {
            int[] all = {w.tasks.size(), tape.length(), conditions.size(), w.sticks() ? 1 : 0, w.over() ? 1 : 0, w.latest};
            return what < 0 || what > 5 ? -1 : all[what];
        }

        int lay(int what, int l, int i) {
            if (l < 0 || l > 3 || what < 0 || what > 1) {
                return -1;
            }
            if (lists[l] == null) {
                return -11;
            }
            List<Integer> way = way(what);
            if (way == null) {
                return -5;
            }
            boolean laid = true;
            for (int k = 0; k < way.size(); k++) {
                if (i < 0 || (long) i + k >= lists[l].length) {
                    laid = false;
                } else {
                    lists[l][i + k] = way.get(k);
                }
            }
            return laid ? way.size() : -13;
        }

        int restart() {
            for (Task t : w.tasks) {
                t.place = t.status = t.saved = t.reason = t.left = 0;
            }
            for (int m = 0; m < 3; m++) {
                boolean missing = w.monitors[m].missing;
                w.monitors[m] = new Monitor();
                w.monitors[m].missing = missing;
            }
            w.cells = new int[4];
            w.latest = -5;
            return w.tasks.size();
        }

        int condition(int c, int how, int v) {
            if (c == -1) {
                conditions.clear();
                return 0;
            }
            if (c < 0 || c > 3 || how < 0 || how > 3) {
                return -1;
            }
            if (v < -99 || v > 99) {
                return -2;
            }
            if (conditions.size() == 4) {
                return -4;
            }
            conditions.add(new int[] {c, how, v});
            return conditions.size();
        }

        int call(int call, int a, int b, int c) {
            switch (call) {
                case 0:
                    if (w.tasks.size() == 4) {
                        return -4;
                    }
                    w.tasks.add(new Task());
                    return w.tasks.size() - 1;
                case 1:
                    return restart();
                case 2:
                    if (a < 0 || a > 2) {
                        return -1;
                    }
                    Monitor m = w.monitors[a];
                    if (m.owner != -5 || !m.entry.isEmpty() || !m.wait.isEmpty()) {
                        return -3;
                    }
                    int was = m.missing ? 1 : 0;
                    m.missing = (b & 1) == 1;
                    return was;
                case 3:
                    if (a < 0 || a > 3 || b < -99 || b > 99) {
                        return -100;
                    }
                    int old = w.cells[a];
                    w.cells[a] = b;
                    return old;
                case 4:
                    return a < 0 || a > 3 ? -100 : w.cells[a];
                case 5:
                    if (a < 1 || a > 127) {
                        return -2;
                    }
                    if (tape.length() == 120) {
                        return -4;
                    }
                    tape += (char) a;
                    return tape.length();
                case 6:
                    int had = tape.length();
                    tape = "";
                    return had;
                case 7:
                    return program(a);
                case 8:
                    return !task(a) || b < 0 || b >= w.tasks.get(a).program.length || c < 0 || c > 3
                            ? -100 : w.tasks.get(a).program[b][c];
                case 9:
                    return step(a);
                case 10:
                    return run(a, b);
                case 11:
                    return follow(a, b, c);
                case 12:
                    return of(a, b);
                case 13:
                    return gate(a, b);
                case 14:
                    return stands(a, b, c);
                case 15:
                    return are(a);
                case 16:
                    return told(a);
                case 17:
                    return a < 0 || b < 0 || b > 1 ? -1 : a >= trouble.length ? -5 : trouble[a][b];
                default:
                    return rest(call, a, b, c);
            }
        }

        int rest(int call, int a, int b, int c) {
            switch (call) {
                case 18:
                    return found(a);
                case 19:
                    List<Integer> way = a < 0 || a > 1 ? null : way(a);
                    return way == null || b < 0 || b >= way.size() ? -1 : way.get(b);
                case 20:
                    return lay(a, b, c);
                case 21:
                    List<String> out = outcomes();
                    if (a < 0 || a >= out.size() || b < 0 || b > 3) {
                        return -100;
                    }
                    String text = out.get(a);
                    return Integer.parseInt(text.substring(1, text.length() - 1).split(", ")[b]);
                case 22:
                    return under(a);
                case 23:
                    return round();
                case 24:
                    return condition(a, b, c);
                case 25:
                    return so(w) ? 1 : 0;
                case 26:
                    if (a < 0 || a > 3) {
                        return -1;
                    }
                    if (b > 40) {
                        return -2;
                    }
                    if (b < 0) {
                        return -14;
                    }
                    lists[a] = new int[b];
                    return 1;
                case 27:
                    if (a < 0 || a > 3) {
                        return -1;
                    }
                    if (lists[a] == null) {
                        return -11;
                    }
                    if (b < 0 || b >= lists[a].length) {
                        return -13;
                    }
                    lists[a][b] = c;
                    return 1;
                case 28:
                    return a < 0 || a > 3 || lists[a] == null || b < 0 || b >= lists[a].length ? -1000000 : lists[a][b];
                case 29:
                    image = w.copy();
                    return w.tasks.size();
                default:
                    if (image == null) {
                        return -3;
                    }
                    w = image.copy();
                    for (Task t : w.tasks) {
                        t.reason = 0;
                        t.left = 0;
                    }
                    return w.tasks.size();
            }
        }
    }

    private static final String[] NAMES = {"task", "restart", "missing", "put", "cell", "feed", "clear", "program",
        "statement", "step", "run", "follow", "of", "gate", "stands", "are", "told", "cause", "found", "schedule", "lay",
        "outcome", "under", "round", "condition", "holds", "list", "set", "get", "image", "back"};

    private static int call(GateTurns x, int call, int a, int b, int c) {
        switch (call) {
            case 0: return x.task();
            case 1: return x.restart();
            case 2: return x.missing(a, (b & 1) == 1);
            case 3: return x.put(a, b);
            case 4: return x.cell(a);
            case 5: return x.feed(a);
            case 6: return x.clear();
            case 7: return x.program(a);
            case 8: return x.statement(a, b, c);
            case 9: return x.step(a);
            case 10: return x.run(a, b);
            case 11: return x.follow(a, b, c);
            case 12: return x.of(a, b);
            case 13: return x.gate(a, b);
            case 14: return x.stands(a, b, c);
            case 15: return x.are(a);
            case 16: return x.told(a);
            case 17: return x.cause(a, b);
            case 18: return x.found(a);
            case 19: return x.schedule(a, b);
            case 20: return x.lay(a, b, c);
            case 21: return x.outcome(a, b);
            case 22: return x.under(a);
            case 23: return x.round();
            case 24: return x.condition(a, b, c);
            case 25: return x.holds();
            case 26: return x.list(a, b);
            case 27: return x.set(a, b, c);
            case 28: return x.get(a, b);
            case 29: return x.image();
            default: return x.back();
        }
    }

    private final Random random;
    private final GateTurns x = new GateTurns();
    private final Model model = new Model();
    private final StringBuilder calls = new StringBuilder();
    private int made = 0;
    private boolean alike = true;
    private static final int[] ANSWERS = new int[NAMES.length];

    private AgainstModel(long seed) {
        random = new Random(seed);
    }

    private void both(int call, int a, int b, int c) {
        if (!alike || made >= 512) {
            return;
        }
        made++;
        int got = call(x, call, a, b, c);
        int want = model.call(call, a, b, c);
        ANSWERS[call]++;
        calls.append(NAMES[call]).append('(').append(a).append(", ").append(b).append(", ").append(c).append(") ")
                .append(got).append('\n');
        if (got != want) {
            alike = false;
            System.out.println(calls + "due is " + want);
        }
    }

    /** Mostly small numbers, at times far ones. */
    private int number(int most) {
        int wild = random.nextInt(60);
        if (wild == 0) {
            return random.nextInt();
        }
        if (wild == 1) {
            return random.nextBoolean() ? Integer.MAX_VALUE : Integer.MIN_VALUE;
        }
        return wild < 4 ? -1 - random.nextInt(3) : wild < 7 ? most + random.nextInt(3) : random.nextInt(most);
    }

    private String statement() {
        int[] often = {0, 0, 0, 1, 1, 2, 3, 4, 5, 6, 7, 8};
        int sort = often[random.nextInt(often.length)];
        StringBuilder s = new StringBuilder(WORDS.get(sort));
        if (sort < 5) {
            s.append(' ').append(random.nextInt(random.nextInt(4) == 0 ? 3 : 2));
        } else if (sort < 8) {
            s.append(' ').append(random.nextInt(4)).append(' ').append(random.nextInt(8) == 0 ? "-" : "");
            s.append(random.nextInt(5) == 0 ? random.nextInt(100) : random.nextInt(3));
        }
        if (sort >= 7) {
            s.append(' ').append(random.nextInt(random.nextBoolean() ? 5 : 13));
        }
        return s.toString();
    }

    private void feedProgram() {
        StringBuilder s = new StringBuilder();
        int statements = 1 + random.nextInt(random.nextInt(6) == 0 ? 13 : 5);
        for (int k = 0; k < statements; k++) {
            s.append(k == 0 ? "" : ";").append(statement());
        }
        if (random.nextInt(4) == 0) {
            spoil(s);
        }
        for (int i = 0; i < s.length(); i++) {
            both(5, s.charAt(i), 0, 0);
        }
        both(7, random.nextInt(10) == 0 ? number(4) : random.nextInt(Math.max(1, model.w.tasks.size())), 0, 0);
        for (int i = 0; i < 3; i++) {
            both(17, i, 1, 0);
        }
    }

    private void spoil(StringBuilder s) {
        String signs = "abelt 0123456789;-A";
        for (int n = random.nextInt(2); n >= 0 && s.length() > 0; n--) {
            int at = random.nextInt(s.length());
            char sign = signs.charAt(random.nextInt(signs.length()));
            int how = random.nextInt(4);
            if (how == 0) {
                s.setCharAt(at, sign);
            } else if (how == 1) {
                s.insert(at, sign);
            } else if (how == 2) {
                s.deleteCharAt(at);
            } else {
                s.setLength(at);
            }
        }
    }

    private void any() {
        int[] seldom = {0, 1, 2, 3, 6, 24, 26, 29, 30};
        int call = random.nextInt(NAMES.length);
        for (int s : seldom) {
            if (call == s && random.nextInt(3) != 0) {
                call = 9;
            }
        }
        int[] first = {1, 1, 3, 4, 4, 130, 1, 4, 4, 4, 3, 4, 4, 3, 3, 5, 6, 4, 9, 2, 2, 3, 3, 1, 4, 1, 4, 4, 4, 1, 1};
        int b = call == 3 ? number(120) - 10 : call == 10 ? number(random.nextBoolean() ? 42 : 4)
                : call == 11 || call == 27 || call == 28 ? number(8) : call == 12 ? number(7) : call == 13 ? number(5)
                : call == 8 ? number(6) : call == 19 ? number(10) : call == 26 ? number(random.nextInt(42) + 1) : number(4);
        int c = call == 24 ? number(6) : call == 20 ? number(8) : number(4);
        both(call, number(first[call]), b, c);
    }

    private void askAll() {
        for (int what = 0; what < 9; what++) {
            both(18, what, 0, 0);
        }
        for (int m = 0; m < 3; m++) {
            both(22, m, 0, 0);
            for (int what = 0; what < 5; what++) {
                both(13, m, what, 0);
            }
        }
        for (int t = 0; t < model.w.tasks.size(); t++) {
            for (int what = 0; what < 7; what++) {
                both(12, t, what, 0);
            }
        }
        both(23, 0, 0, 0);
    }

    private boolean run() {
        int tasks = random.nextInt(5);
        for (int t = 0; t < tasks; t++) {
            both(0, 0, 0, 0);
            feedProgram();
        }
        int asked = random.nextInt(100);
        for (int k = 0; k < 400; k++) {
            if (k % 100 == asked) {
                askAll();
            }
            if (random.nextInt(60) == 0) {
                feedProgram();
            } else {
                any();
            }
        }
        return alike;
    }

    public static void main(String[] args) {
        long from = args.length > 0 ? Long.parseLong(args[0]) : 1;
        long runs = args.length > 1 ? Long.parseLong(args[1]) : 3000;
        int wrong = 0;
        for (long seed = from; seed < from + runs && wrong < 3; seed++) {
            if (!new AgainstModel(seed).run()) {
                System.out.println("run " + seed + " is not as the model's");
                wrong++;
            }
        }
        for (int k = 0; k < NAMES.length; k++) {
            if (ANSWERS[k] == 0) {
                System.out.println(NAMES[k] + " was never called");
                wrong++;
            }
        }
        System.out.println(wrong == 0 ? "all runs are as the model's" : "not all runs are as the model's");
        if (wrong != 0) {
            System.exit(1);
        }
    }
}
