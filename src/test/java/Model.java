import java.util.ArrayList;
import java.util.List;

/**
 * A second, slow SagaDesk for ModelTest: a tree of parts instead of bits, lists instead of rows,
 * and a new state for every thought.
 */
final class Model {
    private static final int NONE = -1, BAD = -2, STATE = -3, FULL = -4;
    private static final List<String> KINDS = List.of("add", "take", "move", "hold", "swap", "mark");
    private static final int[] PARENT = {-1, 0, 0, 1, 2, 0};

    /** A part: a step, branches, a line of parts, or the pivot. */
    private static final class Node {
        final char sort;
        final List<Node> inside = new ArrayList<>();
        int kind;
        int first = NONE;
        int second = NONE;
        int number = NONE;

        Node(char sort) {
            this.sort = sort;
        }

        void steps(List<Node> out) {
            if (sort == 's') {
                out.add(this);
            }
            for (Node node : inside) {
                node.steps(out);
            }
        }

        int size() {
            List<Node> out = new ArrayList<>();
            steps(out);
            return out.size();
        }

        int chain() {
            int all = sort == 's' ? 1 : 0;
            for (Node node : inside) {
                all = sort == 'l' ? all + node.chain() : Math.max(all, node.chain());
            }
            return all;
        }

        int wide() {
            int all = sort == 's' ? 1 : 0;
            for (Node node : inside) {
                all = sort == 'l' ? Math.max(all, node.wide()) : all + node.wide();
            }
            return all;
        }

        long orders() {
            long ways = 1;
            int before = 0;
            for (Node node : inside) {
                ways *= node.orders();
                if (sort == 'b') {
                    before += node.size();
                    for (int i = 0; i < node.size(); i++) {
                        ways = ways * (before - i) / (i + 1);
                    }
                }
            }
            return ways;
        }

        boolean holds(Node other) {
            boolean it = this == other;
            for (Node node : inside) {
                it |= node.holds(other);
            }
            return it;
        }

        /** Whether a stands ahead of b here. */
        boolean ahead(Node a, Node b) {
            for (int i = 0; i < inside.size(); i++) {
                if (inside.get(i).holds(a)) {
                    if (inside.get(i).holds(b)) {
                        return inside.get(i).ahead(a, b);
                    }
                    for (int j = i + 1; j < inside.size(); j++) {
                        if (inside.get(j).holds(b)) {
                            return sort == 'l';
                        }
                    }
                }
            }
            return false;
        }
    }

    private static final class Text {
        Node root;
        final List<Node> steps = new ArrayList<>();
        int pivot = NONE;

        boolean ahead(int a, int b) {
            return root.ahead(steps.get(a), steps.get(b));
        }

        int aheads(int b) {
            int bits = 0;
            for (int a = 0; a < steps.size(); a++) {
                bits |= ahead(a, b) ? 1 << a : 0;
            }
            return bits;
        }

        int besides(int b) {
            int bits = 0;
            for (int a = 0; a < steps.size(); a++) {
                bits |= a != b && !ahead(a, b) && !ahead(b, a) ? 1 << a : 0;
            }
            return bits;
        }
    }

    private static final class Fault extends RuntimeException {
        private static final long serialVersionUID = 1L;
        final int place;

        Fault(int place) {
            this.place = place;
        }
    }

    /** Splits first, then reads. */
    private static final class Parser {
        final List<String> tokens = new ArrayList<>();
        final List<Integer> places = new ArrayList<>();
        int at = 0;
        int steps = 0;
        int pivotAt = NONE;

        Parser(String tape) {
            int i = 0;
            while (i < tape.length()) {
                char c = tape.charAt(i);
                if (c == ' ' || c == '\n') {
                    i++;
                    continue;
                }
                int j = i + 1;
                if (c >= 'a' && c <= 'z') {
                    while (j < tape.length() && tape.charAt(j) >= 'a' && tape.charAt(j) <= 'z') {
                        j++;
                    }
                } else if (c >= '0' && c <= '9') {
                    while (j < tape.length() && tape.charAt(j) >= '0' && tape.charAt(j) <= '9') {
                        j++;
                    }
                }
                tokens.add(tape.substring(i, j));
                places.add(i);
                i = j;
            }
            tokens.add("");
            places.add(tape.length());
        }

        String token() {
            return tokens.get(at);
        }

        Fault fault() {
            return new Fault(places.get(at));
        }

        void sign(String sign) {
            if (!token().equals(sign)) {
                throw fault();
            }
            at++;
        }

        Node text() {
            Node root = line(0);
            if (!token().isEmpty()) {
                throw fault();
            }
            if (steps == 0) {
                throw fault();
            }
            return root;
        }

        Node line(int open) {
            Node line = new Node('l');
            line.inside.add(part(open));
            while (token().equals(";")) {
                at++;
                line.inside.add(part(open));
            }
            return line;
        }

        Node part(int open) {
            if (token().equals("!")) {
                if (open > 0 || pivotAt != NONE) {
                    throw fault();
                }
                at++;
                pivotAt = steps;
                return new Node('!');
            }
            if (token().equals("{")) {
                if (open == 3) {
                    throw fault();
                }
                at++;
                Node branches = new Node('b');
                branches.inside.add(line(open + 1));
                sign("|");
                branches.inside.add(line(open + 1));
                if (token().equals("|")) {
                    at++;
                    branches.inside.add(line(open + 1));
                }
                sign("}");
                return branches;
            }
            Node step = new Node('s');
            step.kind = KINDS.indexOf(token());
            if (step.kind < 0 || steps == 12) {
                throw fault();
            }
            at++;
            steps++;
            if (step.kind != 5) {
                step.first = account();
            }
            if (step.kind == 2 || step.kind == 4) {
                step.second = account();
            }
            if (step.kind < 4) {
                if (!token().matches("[0-9]{1,3}")) {
                    throw fault();
                }
                step.number = Integer.parseInt(token());
                at++;
            }
            return step;
        }

        int account() {
            if (!token().matches("[a-f]")) {
                throw fault();
            }
            at++;
            return tokens.get(at - 1).charAt(0) - 'a';
        }
    }

    private static final class Run {
        int state = 0;
        int text = NONE;
        List<Integer> done = new ArrayList<>();
        int undone = 0;
        int parked = 0;
        int[][] plans = new int[2][12];
        int[] fails = new int[12];
        int[] why = new int[12];
        Integer[] by = new Integer[12];

        int doneBits() {
            int bits = 0;
            for (int step : done) {
                bits |= 1 << step;
            }
            return bits;
        }
    }

    /** Everything that ticks change, with its own log. */
    private final class All {
        int[] balance = {100, 100, 100, 100, 100, 100};
        int held = 0;
        int marks = 0;
        Run[] runs = {new Run(), new Run(), new Run()};
        List<int[]> log = new ArrayList<>();
        int otherSaga = NONE;
        int otherStep = NONE;
        int otherNumber = NONE;

        All twin() {
            All twin = new All();
            twin.balance = balance.clone();
            twin.held = held;
            twin.marks = marks;
            twin.log = new ArrayList<>(log);
            for (int s = 0; s < 3; s++) {
                Run run = runs[s];
                Run other = twin.runs[s];
                other.state = run.state;
                other.text = run.text;
                other.done = new ArrayList<>(run.done);
                other.undone = run.undone;
                other.parked = run.parked;
                other.plans = new int[][] {run.plans[0].clone(), run.plans[1].clone()};
                other.fails = run.fails.clone();
                other.why = run.why.clone();
                other.by = run.by.clone();
            }
            return twin;
        }

        All after(int ticks) {
            All twin = twin();
            for (int i = 0; i < ticks; i++) {
                twin.tick();
            }
            return twin;
        }

        boolean passed(int s) {
            Run run = runs[s];
            if (run.text == NONE || texts.get(run.text).pivot == NONE) {
                return false;
            }
            for (int i = 0; i < texts.get(run.text).pivot; i++) {
                if (!run.done.contains(i)) {
                    return false;
                }
            }
            return true;
        }

        int front(int s) {
            Run run = runs[s];
            if (run.state != 1) {
                return 0;
            }
            Text text = texts.get(run.text);
            int bits = 0;
            for (int i = 0; i < text.steps.size(); i++) {
                boolean ready = !run.done.contains(i);
                for (int j = 0; j < text.steps.size(); j++) {
                    ready &= !text.ahead(j, i) || run.done.contains(j);
                }
                bits |= ready ? 1 << i : 0;
            }
            return bits;
        }

        int[] after(Node step, int number, boolean back) {
            int[] now = balance.clone();
            int n = back ? -number : number;
            switch (step.kind) {
                case 0:
                    now[step.first] += n;
                    break;
                case 1:
                case 3:
                    now[step.first] -= n;
                    break;
                case 2:
                    now[step.first] -= n;
                    now[step.second] += n;
                    break;
                case 4:
                    now[step.first] = balance[step.second];
                    now[step.second] = balance[step.first];
                    break;
                default:
            }
            return now;
        }

        int reason(Node step, int number, boolean back) {
            if (step.kind == 2) {
                int first = balance[step.first] + (back ? number : -number);
                int second = balance[step.second] + (back ? -number : number);
                return first < 0 ? 2 : first > 9999 ? 3 : second < 0 ? 2 : second > 9999 ? 3 : 0;
            }
            for (int v : after(step, number, back)) {
                if (v < 0 || v > 9999) {
                    return v < 0 ? 2 : 3;
                }
            }
            return 0;
        }

        void move(int s, int i, int number, boolean back) {
            Node step = texts.get(runs[s].text).steps.get(i);
            balance = after(step, number, back);
            held += step.kind != 3 ? 0 : back ? -number : number;
            marks += step.kind == 5 && !back ? 1 : 0;
            if (back) {
                runs[s].done.remove((Integer) i);
                runs[s].undone |= 1 << i;
            } else {
                runs[s].done.add(i);
                runs[s].by[i] = number;
            }
        }

        int reasonOf(int s, int i, int number, boolean back) {
            int of = back ? 1 : 0;
            if (runs[s].plans[of][i] > 0) {
                runs[s].plans[of][i]--;
                return 1;
            }
            return reason(texts.get(runs[s].text).steps.get(i), number, back);
        }

        int tick() {
            int before = log.size();
            for (int s = 0; s < 3; s++) {
                if (runs[s].state == 1) {
                    forward(s);
                } else if (runs[s].state == 2) {
                    back(s);
                }
            }
            return log.size() - before;
        }

        void forward(int s) {
            Run run = runs[s];
            int front = front(s);
            for (int i = 0; i < 12; i++) {
                if (run.state != 1 || (front & 1 << i) == 0) {
                    continue;
                }
                int number = s == otherSaga && i == otherStep ? otherNumber
                    : texts.get(run.text).steps.get(i).number;
                int reason = reasonOf(s, i, number, false);
                log.add(new int[] {reason == 0 ? 1 : 2, s, i});
                if (reason == 0) {
                    move(s, i, number, false);
                    continue;
                }
                run.why[i] = reason;
                run.fails[i]++;
                if (!passed(s)) {
                    run.state = 2;
                } else if (run.fails[i] >= 3) {
                    run.state = 5;
                    log.add(new int[] {5, s, 5});
                }
            }
            if (run.state == 1 && run.done.size() == texts.get(run.text).steps.size()) {
                run.state = 3;
                log.add(new int[] {5, s, 3});
            }
        }

        void back(int s) {
            Run run = runs[s];
            if (!run.done.isEmpty()) {
                int i = run.done.get(run.done.size() - 1);
                int reason = reasonOf(s, i, run.by[i], true);
                log.add(new int[] {reason == 0 ? 3 : 4, s, i});
                if (reason == 0) {
                    move(s, i, run.by[i], true);
                } else {
                    run.why[i] = reason;
                    run.done.remove((Integer) i);
                    run.parked |= 1 << i;
                }
            }
            if (run.done.isEmpty()) {
                run.state = 4;
                log.add(new int[] {5, s, 4});
            }
        }

        void begin(int s, int text) {
            runs[s] = new Run();
            runs[s].state = 1;
            runs[s].text = text;
            log.add(new int[] {0, s, text});
        }

        void again(int[] line) {
            int s = line[1];
            int thing = line[2];
            switch (line[0]) {
                case 0:
                    begin(s, thing);
                    return;
                case 1:
                    move(s, thing, texts.get(runs[s].text).steps.get(thing).number, false);
                    break;
                case 2:
                    runs[s].fails[thing]++;
                    runs[s].state = passed(s) ? 1 : 2;
                    break;
                case 3:
                    move(s, thing, texts.get(runs[s].text).steps.get(thing).number, true);
                    break;
                case 4:
                    runs[s].done.remove((Integer) thing);
                    runs[s].parked |= 1 << thing;
                    break;
                case 5:
                    runs[s].state = thing;
                    break;
                default:
                    balance[s] = thing;
            }
            log.add(line);
        }

        int view(int what) {
            if (what < 6) {
                return balance[what];
            }
            if (what < 8) {
                return what == 6 ? held : marks;
            }
            Run run = runs[what % 10];
            return what < 20 ? run.state : what < 30 ? run.doneBits() : what < 40 ? run.undone : run.parked;
        }
    }

    private final StringBuilder tape = new StringBuilder();
    private final List<Text> texts = new ArrayList<>();
    private All now = new All();
    private final int[][] sheets = new int[4][];
    private final int[] sorts = new int[4];

    private All replayed(int n) {
        All all = new All();
        for (int k = 0; k < n; k++) {
            all.again(now.log.get(k));
        }
        return all;
    }

    private static boolean viewable(int what) {
        return what >= 0 && what <= 7 || what >= 10 && what < 50 && what % 10 < 3;
    }

    private boolean saga(int s) {
        return s >= 0 && s < 3;
    }

    private boolean text(int t) {
        return t >= 0 && t < texts.size();
    }

    int feed(int n, int a, int b, int c, int d, int e) {
        int[] bytes = {a, b, c, d, e};
        for (int v : bytes) {
            if (v < 0 || v > 255) {
                return BAD;
            }
        }
        if (n < 1 || n > 5) {
            return BAD;
        }
        if (tape.length() + n > 120) {
            return FULL;
        }
        for (int i = 0; i < n; i++) {
            tape.append((char) bytes[i]);
        }
        return tape.length();
    }

    int text() {
        if (texts.size() == 6) {
            return FULL;
        }
        String all = tape.toString();
        tape.setLength(0);
        Parser parser = new Parser(all);
        try {
            Text text = new Text();
            text.root = parser.text();
            text.root.steps(text.steps);
            text.pivot = parser.pivotAt;
            texts.add(text);
            return texts.size() - 1;
        } catch (Fault fault) {
            return -100 - fault.place;
        }
    }

    int shape(int t, int what) {
        if (!text(t) || what < 0 || what > 5) {
            return BAD;
        }
        Text text = texts.get(t);
        int size = text.steps.size();
        switch (what) {
            case 0: return size;
            case 1: return text.root.chain();
            case 2: return text.root.wide();
            case 3:
                int clashes = 0;
                for (int a = 0; a < size; a++) {
                    for (int b = 0; b < a; b++) {
                        Node x = text.steps.get(a);
                        Node y = text.steps.get(b);
                        boolean common = x.first != NONE && (x.first == y.first || x.first == y.second)
                            || x.second != NONE && (x.second == y.first || x.second == y.second);
                        clashes += common && (text.besides(a) & 1 << b) != 0 ? 1 : 0;
                    }
                }
                return clashes;
            case 4: return text.pivot == NONE ? NONE : (1 << text.pivot) - 1;
            default: return risky(text);
        }
    }

    private int risky(Text text) {
        int size = text.steps.size();
        int[] aheads = new int[size];
        for (int i = 0; i < size; i++) {
            aheads[i] = text.aheads(i);
        }
        int risky = 0;
        for (int set = 0; set < 1 << size; set++) {
            All all = new All();
            all.balance = now.balance.clone();
            boolean good = true;
            for (int i = 0; i < size && good; i++) {
                if ((set & 1 << i) != 0) {
                    Node step = text.steps.get(i);
                    good = (aheads[i] & ~set) == 0 && all.reason(step, step.number, false) == 0;
                    all.balance = all.after(step, step.number, false);
                }
            }
            boolean risk = false;
            for (int i = 0; i < size && good; i++) {
                Node step = text.steps.get(i);
                risk |= (set & 1 << i) == 0 && (aheads[i] & ~set) == 0 && all.reason(step, step.number, false) != 0;
            }
            risky += good && risk ? 1 : 0;
        }
        return risky;
    }

    long orders(int t) {
        return text(t) ? texts.get(t).root.orders() : BAD;
    }

    int step(int t, int i, int what) {
        if (!text(t) || i < 0 || i >= texts.get(t).steps.size() || what < 0 || what > 5) {
            return BAD;
        }
        Node step = texts.get(t).steps.get(i);
        int[] all = {step.kind, step.first, step.second, step.number, texts.get(t).aheads(i), texts.get(t).besides(i)};
        return all[what];
    }

    int taken(int t, int i, int k) {
        if (!text(t) || i < 0 || i >= texts.get(t).steps.size() || k < 0 || k > 5) {
            return BAD;
        }
        int kind = texts.get(t).steps.get(i).kind;
        for (int at = kind; at >= 0; at = PARENT[at]) {
            if (at == k) {
                return kind;
            }
        }
        return -13;
    }

    int begin(int s, int t) {
        if (!saga(s) || !text(t)) {
            return BAD;
        }
        if (now.runs[s].state == 1 || now.runs[s].state == 2) {
            return STATE;
        }
        if (now.log.size() == 240) {
            return FULL;
        }
        now.begin(s, t);
        return texts.get(t).steps.size();
    }

    private boolean nameable(int s, int i) {
        int size = now.runs[s].state == 0 ? 12 : texts.get(now.runs[s].text).steps.size();
        return i >= 0 && i < size;
    }

    int plan(int s, int i, int of, int n) {
        if (!saga(s) || !nameable(s, i) || of < 0 || of > 1 || n < 0 || n > 9) {
            return BAD;
        }
        if (now.runs[s].state == 0) {
            return STATE;
        }
        int was = now.runs[s].plans[of][i];
        now.runs[s].plans[of][i] = n;
        return was;
    }

    int tick() {
        return now.log.size() > 190 ? FULL : now.tick();
    }

    int told(int s, int what) {
        if (!saga(s) || what < 0 || what > 7) {
            return BAD;
        }
        Run run = now.runs[s];
        int last = run.done.isEmpty() ? NONE : run.done.get(run.done.size() - 1);
        int[] all = {run.state, run.text, run.doneBits(), run.undone, run.parked, now.front(s),
            now.passed(s) ? 1 : 0, last};
        return all[what];
    }

    int why(int s, int i) {
        if (!saga(s) || !nameable(s, i)) {
            return BAD;
        }
        return now.runs[s].state == 0 ? STATE : now.runs[s].why[i];
    }

    int set(int a, int v) {
        if (a < 0 || a > 5 || v < 0 || v > 9999) {
            return BAD;
        }
        if (now.log.size() == 240) {
            return FULL;
        }
        int was = now.balance[a];
        now.again(new int[] {6, a, v});
        return was;
    }

    int line(int k, int what) {
        if (what < 0 || what > 2) {
            return BAD;
        }
        return k < 0 || k >= now.log.size() ? -12 : now.log.get(k)[what];
    }

    int replay(int n, int what) {
        return n < 0 || n > now.log.size() || !viewable(what) ? BAD : replayed(n).view(what);
    }

    int breaks(int n) {
        if (n < 0 || n > now.log.size()) {
            return BAD;
        }
        int lost = now.log.size() - n;
        now = replayed(n);
        return lost;
    }

    int run(int n, int what) {
        return n < 0 || n > 60 || !viewable(what) ? BAD : now.after(n).view(what);
    }

    int ends(int s, int what) {
        if (!saga(s) || what < 0 || what > 2) {
            return BAD;
        }
        if (now.runs[s].state == 0) {
            return STATE;
        }
        for (int n = 0; n <= 60; n++) {
            Run run = now.after(n).runs[s];
            if (run.state >= 3) {
                return what == 0 ? n : what == 1 ? run.state : Integer.bitCount(run.parked);
            }
        }
        Run run = now.after(60).runs[s];
        return what == 0 ? NONE : what == 1 ? run.state : Integer.bitCount(run.parked);
    }

    int drawn(int s, int seed) {
        if (!saga(s)) {
            return BAD;
        }
        if (now.runs[s].state == 0) {
            return STATE;
        }
        All all = now.twin();
        for (Run run : all.runs) {
            run.plans = new int[2][12];
        }
        long z = seed;
        for (int i = 0; i < 12; i++) {
            z = (int) (z * 1103515245L + 12345L);
            all.runs[s].plans[0][i] = ((z & 0xffffffffL) >> 9) % 4 == 0 ? 1 : 0;
        }
        return all.after(40).runs[s].state;
    }

    int chance(int s, int seed, int m, int part) {
        if (!saga(s) || m < 1 || m > 20 || part < 0 || part > 1) {
            return BAD;
        }
        if (now.runs[s].state == 0) {
            return STATE;
        }
        int above = 0;
        for (int i = 0; i < m; i++) {
            above += drawn(s, seed + i) == 3 ? 1 : 0;
        }
        int below = m;
        for (int d = 2; d <= below; d++) {
            while (above % d == 0 && below % d == 0) {
                above /= d;
                below /= d;
            }
        }
        return part == 0 ? above : below;
    }

    private int otherwise(int sheet, int a, All all) {
        for (int i = 0; i < sheets[sheet].length; i++) {
            if (all.after(i + 1).balance[a] != sheets[sheet][i]) {
                return i;
            }
        }
        return NONE;
    }

    int tells(int sheet, int a, int s, int what) {
        if (sheet < 0 || sheet > 3 || a < 0 || a > 5 || !saga(s)) {
            return BAD;
        }
        if (what != 0 && what != 1 && (what < 100 || what > 211 || what % 100 > 11)) {
            return BAD;
        }
        if (what >= 100) {
            if (now.runs[s].state == 0) {
                return STATE;
            }
            Text text = texts.get(now.runs[s].text);
            if (what % 100 >= text.steps.size() || text.steps.get(what % 100).number == NONE) {
                return BAD;
            }
        }
        if (sheets[sheet] == null) {
            return -11;
        }
        if (sheets[sheet].length > 20) {
            return BAD;
        }
        if (what == 0) {
            return otherwise(sheet, a, now);
        }
        if (what == 1) {
            int bits = 0;
            for (int i = 0; i < 6; i++) {
                bits |= otherwise(sheet, i, now) == NONE ? 1 << i : 0;
            }
            return bits;
        }
        List<Integer> fitting = new ArrayList<>();
        for (int number = 0; number < 20; number++) {
            All all = now.twin();
            boolean so = true;
            all.otherSaga = s;
            all.otherStep = what % 100;
            all.otherNumber = number;
            for (int v : sheets[sheet]) {
                all.tick();
                so &= all.balance[a] == v;
            }
            if (so) {
                fitting.add(number);
            }
        }
        return what < 200 ? fitting.size() : fitting.isEmpty() ? NONE : fitting.get(0);
    }

    int film(int sheet, int a, int n) {
        if (sheet < 0 || sheet > 3 || a < 0 || a > 5 || n < 0 || n > 20) {
            return BAD;
        }
        sheets[sheet] = new int[n];
        sorts[sheet] = 1;
        for (int i = 0; i < n; i++) {
            sheets[sheet][i] = now.after(i + 1).balance[a];
        }
        return n;
    }

    int count(int what) {
        switch (what) {
            case 0: return texts.size();
            case 1: return tape.length();
            case 2: return now.log.size();
            case 3:
                int active = 0;
                for (Run run : now.runs) {
                    active += run.state == 1 || run.state == 2 ? 1 : 0;
                }
                return active;
            case 4: return now.held;
            case 5: return now.marks;
            default: return what >= 10 && what <= 15 ? now.balance[what - 10] : BAD;
        }
    }

    int sheet(int sheet, int sort, int n) {
        if (sheet < 0 || sheet > 3 || sort < -1 || sort > 1) {
            return BAD;
        }
        if (sort >= 0 && n > 40) {
            return BAD;
        }
        if (sort >= 0 && n < 0) {
            return -14;
        }
        sheets[sheet] = sort < 0 ? null : new int[n];
        sorts[sheet] = sort;
        return 1;
    }

    int cell(int sheet, int i, int v) {
        if (sheet < 0 || sheet > 3) {
            return BAD;
        }
        if (sheets[sheet] == null) {
            return -11;
        }
        if (i < 0 || i >= sheets[sheet].length) {
            return -12;
        }
        sheets[sheet][i] = sorts[sheet] == 0 ? Math.floorMod(v, 256) : v;
        return 1;
    }

    int copy(int sheet, int i, int other, int j, int n) {
        if (sheet < 0 || sheet > 3 || other < 0 || other > 3) {
            return BAD;
        }
        if (sheets[sheet] == null || sheets[other] == null) {
            return -11;
        }
        if (sorts[sheet] != sorts[other]) {
            return -13;
        }
        long end = (long) i + n;
        long otherEnd = (long) j + n;
        if (n < 0 || i < 0 || j < 0 || end > sheets[sheet].length || otherEnd > sheets[other].length) {
            return -12;
        }
        int[] was = sheets[sheet].clone();
        for (int k = 0; k < n; k++) {
            sheets[other][j + k] = was[i + k];
        }
        return n;
    }
}
