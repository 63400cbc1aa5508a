import java.util.Arrays;

/** Sagas over accounts: texts, ticks, a log that may break, and what comes of them in thought. */
public final class SagaDesk {
    public static final int NONE = -1, BAD = -2, STATE = -3, FULL = -4;

    private static final int MISSING = -11, OUTSIDE = -12, UNLIKE = -13, BELOW = -14;

    private static final int ACCOUNTS = 6, TEXTS = 6, STEPS = 12, SAGAS = 3, SHEETS = 4;
    private static final int HIGHEST = 9999, AT_FIRST = 100;
    private static final int TAPE = 120, DEEPEST = 3, LONGEST_NUMBER = 3, FED = 5, BYTE = 255;
    private static final int LINES = 240, TICKING_LINES = 190;
    private static final int PLANS = 9, TRIES = 3;
    private static final int AHEAD_TICKS = 60, DRAWN_TICKS = 40, SEEDS = 20;
    private static final int TOLD_TICKS = 20, TOLD_NUMBERS = 20, ITEMS = 40;

    private static final int ADD = 0, TAKE = 1, MOVE = 2, HOLD = 3, SWAP = 4, MARK = 5, KINDS = 6;
    private static final int[] UNDER = {NONE, ADD, ADD, TAKE, MOVE, ADD};
    private static final int[] ACCOUNTS_OF = {1, 1, 2, 1, 2, 0};

    private static final int DOING = 1, UNDOING = -1;
    private static final int PLANNED = 1, LOW = 2, HIGH = 3;

    private static final int IDLE = 0, RUNNING = 1, BACK = 2, DONE = 3, UNDONE = 4, STUCK = 5;

    private static final int BEGUN_LINE = 0, DONE_LINE = 1, FAILED_LINE = 2, UNDONE_LINE = 3, PARKED_LINE = 4,
        ENDED_LINE = 5, SET_LINE = 6;

    private static final int BYTES = 0, INTS = 1;

    private final Reader reader;
    private final Program[] texts;
    private int textCount;
    private final Journal journal;
    private final World real;
    private final World thought;
    private final Row[] rows;
    private final long[] ways;

    public SagaDesk() {
        reader = new Reader();
        texts = new Program[TEXTS];
        for (int i = 0; i < TEXTS; i++) {
            texts[i] = new Program();
        }
        journal = new Journal(LINES);
        real = new World(texts, journal);
        // What is thought is written nowhere.
        thought = new World(texts, new Journal(0));
        rows = new Row[SHEETS];
        for (int i = 0; i < SHEETS; i++) {
            rows[i] = new Row();
        }
        ways = new long[1 << STEPS];
    }

    // ---- texts

    public int feed(int n, int a, int b, int c, int d, int e) {
        if (!isIn(n, 1, FED) || !isByte(a) || !isByte(b) || !isByte(c) || !isByte(d) || !isByte(e)) {
            return BAD;
        }
        if (reader.size + n > TAPE) {
            return FULL;
        }
        for (int i = 0; i < n; i++) {
            reader.append(i == 0 ? a : i == 1 ? b : i == 2 ? c : i == 3 ? d : e);
        }
        return reader.size;
    }

    public int text() {
        if (textCount >= TEXTS) {
            return FULL;
        }
        int fault = reader.readInto(texts[textCount]);
        reader.size = 0;
        if (fault != NONE) {
            return -100 - fault;
        }
        textCount++;
        return textCount - 1;
    }

    public int shape(int text, int what) {
        if (!isText(text)) {
            return BAD;
        }
        Program program = texts[text];
        switch (what) {
            case 0: return program.size;
            case 1: return program.longestChain();
            case 2: return program.widest();
            case 3: return program.countClashes();
            case 4: return program.pivot;
            case 5:
                thought.purse.become(real.purse);
                return countRisky(program, thought.purse, 0, 0);
            default: return BAD;
        }
    }

    public long orders(int text) {
        return isText(text) ? texts[text].countOrders(ways) : BAD;
    }

    public int step(int text, int step, int what) {
        if (!isText(text) || !texts[text].has(step)) {
            return BAD;
        }
        Program program = texts[text];
        switch (what) {
            case 0: return program.kinds[step];
            case 1: return program.firsts[step];
            case 2: return program.seconds[step];
            case 3: return program.numbers[step];
            case 4: return program.aheads[step];
            case 5: return program.beside(step);
            default: return BAD;
        }
    }

    public int taken(int text, int step, int k) {
        if (!isText(text) || !texts[text].has(step) || !isIn(k, 0, KINDS - 1)) {
            return BAD;
        }
        int kind = texts[text].kinds[step];
        return isUnder(kind, k) ? kind : UNLIKE;
    }

    // ---- sagas

    public int begin(int saga, int text) {
        if (!isSaga(saga) || !isText(text)) {
            return BAD;
        }
        Saga begun = real.sagas[saga];
        if (begun.isActive()) {
            return STATE;
        }
        if (journal.size >= LINES) {
            return FULL;
        }
        begun.start(texts[text], text);
        journal.note(BEGUN_LINE, saga, text);
        return texts[text].size;
    }

    public int plan(int saga, int step, int of, int n) {
        if (!isSaga(saga) || !real.sagas[saga].mayName(step) || !isIn(of, 0, 1) || !isIn(n, 0, PLANS)) {
            return BAD;
        }
        Saga planned = real.sagas[saga];
        if (planned.state == IDLE) {
            return STATE;
        }
        int[] plans = of == 0 ? planned.tryPlans : planned.undoPlans;
        int before = plans[step];
        plans[step] = n;
        return before;
    }

    public int tick() {
        if (journal.size > TICKING_LINES) {
            return FULL;
        }
        int before = journal.size;
        real.goOn();
        return journal.size - before;
    }

    public int told(int saga, int what) {
        if (!isSaga(saga)) {
            return BAD;
        }
        Saga asked = real.sagas[saga];
        switch (what) {
            case 0: return asked.state;
            case 1: return asked.text;
            case 2: return asked.done;
            case 3: return asked.undone;
            case 4: return asked.parked;
            case 5: return asked.front();
            case 6: return asked.hasPassed() ? 1 : 0;
            case 7: return asked.lastDone();
            default: return BAD;
        }
    }

    public int why(int saga, int step) {
        if (!isSaga(saga) || !real.sagas[saga].mayName(step)) {
            return BAD;
        }
        Saga asked = real.sagas[saga];
        return asked.state == IDLE ? STATE : asked.reasons[step];
    }

    public int set(int account, int v) {
        if (!isAccount(account) || !isIn(v, 0, HIGHEST)) {
            return BAD;
        }
        if (journal.size >= LINES) {
            return FULL;
        }
        int before = real.purse.balances[account];
        real.purse.balances[account] = v;
        journal.note(SET_LINE, account, v);
        return before;
    }

    // ---- the log

    public int line(int k, int what) {
        if (!isIn(what, 0, 2)) {
            return BAD;
        }
        if (!isIn(k, 0, journal.size - 1)) {
            return OUTSIDE;
        }
        return what == 0 ? journal.events[k] : what == 1 ? journal.owners[k] : journal.things[k];
    }

    public int replay(int n, int what) {
        if (!isIn(n, 0, journal.size) || !isView(what)) {
            return BAD;
        }
        thought.rebuild(journal, n);
        return thought.view(what);
    }

    public int breaks(int n) {
        if (!isIn(n, 0, journal.size)) {
            return BAD;
        }
        int lost = journal.size - n;
        journal.size = n;
        real.rebuild(journal, n);
        return lost;
    }

    // ---- in thought

    public int run(int n, int what) {
        if (!isIn(n, 0, AHEAD_TICKS) || !isView(what)) {
            return BAD;
        }
        thought.become(real);
        for (int i = 0; i < n; i++) {
            thought.goOn();
        }
        return thought.view(what);
    }

    public int ends(int saga, int what) {
        if (!isSaga(saga) || !isIn(what, 0, 2)) {
            return BAD;
        }
        if (real.sagas[saga].state == IDLE) {
            return STATE;
        }
        thought.become(real);
        Saga asked = thought.sagas[saga];
        int ticks = 0;
        while (ticks < AHEAD_TICKS && !asked.isOver()) {
            thought.goOn();
            ticks++;
        }
        if (what == 0) {
            return asked.isOver() ? ticks : NONE;
        }
        return what == 1 ? asked.state : Integer.bitCount(asked.parked);
    }

    public int drawn(int saga, int seed) {
        if (!isSaga(saga)) {
            return BAD;
        }
        return real.sagas[saga].state == IDLE ? STATE : endDrawn(saga, seed);
    }

    public int chance(int saga, int seed, int m, int part) {
        if (!isSaga(saga) || !isIn(m, 1, SEEDS) || !isIn(part, 0, 1)) {
            return BAD;
        }
        if (real.sagas[saga].state == IDLE) {
            return STATE;
        }
        int good = 0;
        for (int i = 0; i < m; i++) {
            if (endDrawn(saga, seed + i) == DONE) {
                good++;
            }
        }
        int shared = commonDivisor(good, m);
        return (part == 0 ? good : m) / shared;
    }

    // ---- what was told

    public int tells(int sheet, int account, int saga, int what) {
        if (!isSheet(sheet) || !isAccount(account) || !isSaga(saga) || !isQuestion(what)) {
            return BAD;
        }
        int step = what % 100;
        if (what >= 100) {
            Saga asked = real.sagas[saga];
            if (asked.state == IDLE) {
                return STATE;
            }
            if (!asked.has(step) || asked.numbers[step] == NONE) {
                return BAD;
            }
        }
        Row row = rows[sheet];
        if (row.sort == NONE) {
            return MISSING;
        }
        if (row.size > TOLD_TICKS) {
            return BAD;
        }
        if (what == 0) {
            thought.become(real);
            return firstOtherwise(row, account);
        }
        if (what == 1) {
            return accountsTold(row);
        }
        int numbers = numbersTold(row, account, saga, step);
        return what < 200 ? Integer.bitCount(numbers) : lowest(numbers);
    }

    public int film(int sheet, int account, int n) {
        if (!isSheet(sheet) || !isAccount(account) || !isIn(n, 0, TOLD_TICKS)) {
            return BAD;
        }
        Row row = rows[sheet];
        row.renew(INTS, n);
        thought.become(real);
        for (int i = 0; i < n; i++) {
            thought.goOn();
            row.put(i, thought.purse.balances[account]);
        }
        return n;
    }

    public int count(int what) {
        switch (what) {
            case 0: return textCount;
            case 1: return reader.size;
            case 2: return journal.size;
            case 3: return real.countActive();
            case 4: return real.purse.held;
            case 5: return real.purse.marks;
            default: return isIn(what, 10, 9 + ACCOUNTS) ? real.purse.balances[what - 10] : BAD;
        }
    }

    // ---- the host

    public int sheet(int sheet, int sort, int n) {
        if (!isSheet(sheet) || !isIn(sort, NONE, INTS)) {
            return BAD;
        }
        if (sort == NONE) {
            rows[sheet].renew(NONE, 0);
            return 1;
        }
        if (n > ITEMS) {
            return BAD;
        }
        if (n < 0) {
            return BELOW;
        }
        rows[sheet].renew(sort, n);
        return 1;
    }

    public int cell(int sheet, int i, int v) {
        if (!isSheet(sheet)) {
            return BAD;
        }
        Row row = rows[sheet];
        if (row.sort == NONE) {
            return MISSING;
        }
        if (!isIn(i, 0, row.size - 1)) {
            return OUTSIDE;
        }
        row.put(i, v);
        return 1;
    }

    public int copy(int sheet, int i, int other, int j, int n) {
        if (!isSheet(sheet) || !isSheet(other)) {
            return BAD;
        }
        Row from = rows[sheet];
        Row to = rows[other];
        if (from.sort == NONE || to.sort == NONE) {
            return MISSING;
        }
        if (from.sort != to.sort) {
            return UNLIKE;
        }
        if (!from.hasPart(i, n) || !to.hasPart(j, n)) {
            return OUTSIDE;
        }
        System.arraycopy(from.items, i, to.items, j, n);
        return n;
    }

    // ---- what numbers may be

    private static boolean isIn(int number, int least, int most) {
        return number >= least && number <= most;
    }

    private static boolean isByte(int number) {
        return isIn(number, 0, BYTE);
    }

    private static boolean isAccount(int number) {
        return isIn(number, 0, ACCOUNTS - 1);
    }

    private static boolean isSaga(int number) {
        return isIn(number, 0, SAGAS - 1);
    }

    private static boolean isSheet(int number) {
        return isIn(number, 0, SHEETS - 1);
    }

    private boolean isText(int number) {
        return isIn(number, 0, textCount - 1);
    }

    /** Whether replay() and run() may be asked for it. */
    private static boolean isView(int what) {
        return isIn(what, 0, 7) || isIn(what, 10, 49) && what % 10 < SAGAS;
    }

    /** Whether tells() may be asked for it. */
    private static boolean isQuestion(int what) {
        return isIn(what, 0, 1) || isIn(what, 100, 99 + STEPS) || isIn(what, 200, 199 + STEPS);
    }

    private static boolean isUnder(int kind, int above) {
        int at = kind;
        for (int i = 0; i < KINDS && isIn(at, 0, KINDS - 1); i++) {
            if (at == above) {
                return true;
            }
            at = UNDER[at];
        }
        return false;
    }

    private static boolean hasNumber(int kind) {
        return kind != SWAP && kind != MARK;
    }

    private static boolean isBit(int set, int step) {
        return (set >> step & 1) != 0;
    }

    /** The lowest bit of a set, or NONE. */
    private static int lowest(int set) {
        for (int i = 0; i < TOLD_NUMBERS; i++) {
            if (isBit(set, i)) {
                return i;
            }
        }
        return NONE;
    }

    /** The greatest that divides both; the second is above 0. */
    private static int commonDivisor(int number, int most) {
        for (int divisor = most; divisor > 1; divisor--) {
            if (number % divisor == 0 && most % divisor == 0) {
                return divisor;
            }
        }
        return 1;
    }

    // ---- what is thought

    /** Counts the RISKY sets that hold just these of the steps below this one. */
    private static int countRisky(Program program, Purse purse, int step, int set) {
        if (step >= program.size) {
            return purse.blocksOne(program, program.next(set)) ? 1 : 0;
        }
        int risky = countRisky(program, purse, step + 1, set);
        int number = program.numbers[step];
        boolean open = (program.aheads[step] & ~set) == 0;
        // A set whose step fails here is none, whatever higher steps it has: they come later.
        if (open && purse.obstacle(program, step, number, DOING) == 0) {
            purse.change(program, step, number, DOING);
            risky += countRisky(program, purse, step + 1, set | 1 << step);
            purse.change(program, step, number, UNDOING);
        }
        return risky;
    }

    private int endDrawn(int saga, int seed) {
        thought.become(real);
        thought.dropPlans();
        Saga asked = thought.sagas[saga];
        int z = seed;
        for (int i = 0; i < asked.size(); i++) {
            z = z * 1103515245 + 12345;
            asked.tryPlans[i] = (z >>> 9) % 4 == 0 ? 1 : 0;
        }
        for (int i = 0; i < DRAWN_TICKS; i++) {
            thought.goOn();
        }
        return asked.state;
    }

    /** Goes on from what is thought already. */
    private int firstOtherwise(Row row, int account) {
        for (int i = 0; i < row.size; i++) {
            thought.goOn();
            if (thought.purse.balances[account] != row.items[i]) {
                return i;
            }
        }
        return NONE;
    }

    private int accountsTold(Row row) {
        int told = (1 << ACCOUNTS) - 1;
        thought.become(real);
        for (int i = 0; i < row.size; i++) {
            thought.goOn();
            for (int account = 0; account < ACCOUNTS; account++) {
                if (thought.purse.balances[account] != row.items[i]) {
                    told &= ~(1 << account);
                }
            }
        }
        return told;
    }

    /** The numbers (bits) of a step by which the row would tell the balance. */
    private int numbersTold(Row row, int account, int saga, int step) {
        int told = 0;
        for (int number = 0; number < TOLD_NUMBERS; number++) {
            thought.become(real);
            thought.sagas[saga].numbers[step] = number;
            if (firstOtherwise(row, account) == NONE) {
                told |= 1 << number;
            }
        }
        return told;
    }

    /** A TEXT: its steps by numbers, and which stand ahead of which. */
    private static final class Program {
        final int[] kinds = new int[STEPS];
        final int[] firsts = new int[STEPS];
        final int[] seconds = new int[STEPS];
        final int[] numbers = new int[STEPS];
        final int[] aheads = new int[STEPS];
        final int[] chains = new int[STEPS];
        int size;
        int pivot = NONE;

        void clear() {
            size = 0;
            pivot = NONE;
        }

        boolean has(int step) {
            return step >= 0 && step < size;
        }

        int all() {
            return (1 << size) - 1;
        }

        /** Adds a step and answers its bit; none, if there is no room. */
        int append(int kind, int first, int second, int number, int ahead) {
            if (size >= STEPS) {
                return 0;
            }
            kinds[size] = kind;
            firsts[size] = first;
            seconds[size] = second;
            numbers[size] = number;
            aheads[size] = ahead;
            size++;
            return 1 << size - 1;
        }

        boolean isPassed(int done) {
            return pivot != NONE && (pivot & ~done) == 0;
        }

        /** Steps outside of a set of which all ahead are in it. */
        int next(int set) {
            int next = 0;
            for (int i = 0; i < size; i++) {
                if (!isBit(set, i) && (aheads[i] & ~set) == 0) {
                    next |= 1 << i;
                }
            }
            return next;
        }

        int beside(int step) {
            int related = 1 << step;
            for (int i = 0; i < size; i++) {
                if (isBit(aheads[step], i) || isBit(aheads[i], step)) {
                    related |= 1 << i;
                }
            }
            return all() & ~related;
        }

        int longestChain() {
            int longest = 0;
            for (int i = 0; i < size; i++) {
                chains[i] = 1;
                for (int j = 0; j < i; j++) {
                    if (isBit(aheads[i], j)) {
                        chains[i] = Math.max(chains[i], chains[j] + 1);
                    }
                }
                longest = Math.max(longest, chains[i]);
            }
            return longest;
        }

        int widest() {
            return widestFrom(this, 0, all());
        }

        /** How many, at most, of the free steps from this one on are all beside one another. */
        private static int widestFrom(Program program, int step, int free) {
            if (step >= program.size) {
                return 0;
            }
            int without = widestFrom(program, step + 1, free);
            if (!isBit(free, step)) {
                return without;
            }
            return Math.max(without, 1 + widestFrom(program, step + 1, free & program.beside(step)));
        }

        int accountsOf(int step) {
            int first = isAccount(firsts[step]) ? 1 << firsts[step] : 0;
            int second = isAccount(seconds[step]) ? 1 << seconds[step] : 0;
            return first | second;
        }

        int countClashes() {
            int clashes = 0;
            for (int i = 0; i < size; i++) {
                int beside = beside(i);
                for (int j = i + 1; j < size; j++) {
                    if (isBit(beside, j) && (accountsOf(i) & accountsOf(j)) != 0) {
                        clashes++;
                    }
                }
            }
            return clashes;
        }

        /** Needs a row of one place for each set of steps. */
        long countOrders(long[] ways) {
            int all = all();
            if (ways.length <= all) {
                return 0;
            }
            for (int set = 1; set <= all; set++) {
                ways[set] = 0;
            }
            ways[0] = 1;
            for (int set = 0; set < all; set++) {
                // No way leads to a set that isn't closed.
                int next = ways[set] == 0 ? 0 : next(set);
                for (int i = 0; i < size; i++) {
                    if (isBit(next, i)) {
                        ways[set | 1 << i] += ways[set];
                    }
                }
            }
            return ways[all];
        }
    }

    /** THE TAPE, and how a TEXT is read from it. */
    private static final class Reader {
        private static final int END = 0, WORD = 1, NUMBER = 2, ODD = 3;

        private final int[] bytes = new int[TAPE];
        int size;
        private int place;
        private int token;
        private int start;
        private int fault;
        private Program program;

        void append(int b) {
            if (size < TAPE) {
                bytes[size] = b;
                size++;
            }
        }

        /** Answers the place of the fault, or NONE. */
        int readInto(Program target) {
            if (target == null) {
                return size;
            }
            program = target;
            program.clear();
            place = 0;
            fault = NONE;
            advance();
            readLine(0, 0);
            if (token != END) {
                refuse();
            }
            if (fault == NONE && program.size == 0) {
                fault = size;
            }
            return fault;
        }

        private void advance() {
            while (place < size && (bytes[place] == ' ' || bytes[place] == '\n')) {
                place++;
            }
            start = place;
            if (place >= size) {
                token = END;
                return;
            }
            int b = bytes[place];
            if (isIn(b, 'a', 'z')) {
                skipRun('a', 'z');
                token = WORD;
            } else if (isIn(b, '0', '9')) {
                skipRun('0', '9');
                token = place - start > LONGEST_NUMBER ? ODD : NUMBER;
            } else {
                place++;
                token = b == ';' || b == '{' || b == '|' || b == '}' || b == '!' ? b : ODD;
            }
        }

        private void skipRun(int low, int high) {
            while (place < size && bytes[place] >= low && bytes[place] <= high) {
                place++;
            }
        }

        private void refuse() {
            if (fault == NONE) {
                fault = start;
            }
        }

        private void expect(int sign) {
            if (fault == NONE && token == sign) {
                advance();
            } else {
                refuse();
            }
        }

        /** Answers the steps of the line (bits), as do those below of what they read. */
        private int readLine(int ahead, int depth) {
            int own = readPart(ahead, depth);
            for (int i = 0; i < TAPE && fault == NONE && token == ';'; i++) {
                advance();
                own |= readPart(ahead | own, depth);
            }
            return own;
        }

        private int readPart(int ahead, int depth) {
            if (fault == NONE && token == WORD) {
                return readStep(ahead);
            }
            if (fault == NONE && token == '{' && depth < DEEPEST) {
                return readBranches(ahead, depth + 1);
            }
            if (fault == NONE && token == '!' && depth == 0 && program.pivot == NONE) {
                program.pivot = ahead;
                advance();
                return 0;
            }
            refuse();
            return 0;
        }

        private int readBranches(int ahead, int depth) {
            advance();
            int own = readLine(ahead, depth);
            expect('|');
            own |= readLine(ahead, depth);
            if (fault == NONE && token == '|') {
                advance();
                own |= readLine(ahead, depth);
            }
            expect('}');
            return own;
        }

        private int readStep(int ahead) {
            int kind = kindOfWord();
            if (kind == NONE || program.size >= STEPS) {
                refuse();
                return 0;
            }
            advance();
            int first = ACCOUNTS_OF[kind] > 0 ? readAccount() : NONE;
            int second = ACCOUNTS_OF[kind] > 1 ? readAccount() : NONE;
            int number = hasNumber(kind) ? readNumber() : NONE;
            return fault == NONE ? program.append(kind, first, second, number, ahead) : 0;
        }

        private int readAccount() {
            if (fault != NONE || token != WORD || place - start != 1) {
                refuse();
                return NONE;
            }
            int account = bytes[start] - 'a';
            if (!isAccount(account)) {
                refuse();
                return NONE;
            }
            advance();
            return account;
        }

        private int readNumber() {
            if (fault != NONE || token != NUMBER) {
                refuse();
                return NONE;
            }
            int number = 0;
            for (int i = start; i < place; i++) {
                number = number * 10 + bytes[i] - '0';
            }
            advance();
            return number;
        }

        private int kindOfWord() {
            for (int kind = 0; kind < KINDS; kind++) {
                if (isWord(wordOf(kind))) {
                    return kind;
                }
            }
            return NONE;
        }

        private boolean isWord(String word) {
            if (place - start != word.length()) {
                return false;
            }
            for (int i = 0; i < word.length(); i++) {
                if (start + i >= size || bytes[start + i] != word.charAt(i)) {
                    return false;
                }
            }
            return true;
        }

        private static String wordOf(int kind) {
            switch (kind) {
                case ADD: return "add";
                case TAKE: return "take";
                case MOVE: return "move";
                case HOLD: return "hold";
                case SWAP: return "swap";
                default: return "mark";
            }
        }
    }

    /** What steps change: the BALANCES, HELD and MARKS. */
    private static final class Purse {
        final int[] balances = new int[ACCOUNTS];
        int held;
        int marks;

        Purse() {
            Arrays.fill(balances, AT_FIRST);
        }

        void clear() {
            Arrays.fill(balances, AT_FIRST);
            held = 0;
            marks = 0;
        }

        void become(Purse other) {
            System.arraycopy(other.balances, 0, balances, 0, ACCOUNTS);
            held = other.held;
            marks = other.marks;
        }

        /** Why a step can't be gone this way: LOW, HIGH; 0, if it can. */
        int obstacle(Program program, int step, int number, int way) {
            if (program == null || !program.has(step)) {
                return 0;
            }
            int kind = program.kinds[step];
            int reason = beyond(program.firsts[step], way * toFirst(kind, number));
            return reason != 0 ? reason : beyond(program.seconds[step], way * toSecond(kind, number));
        }

        void change(Program program, int step, int number, int way) {
            if (program == null || !program.has(step)) {
                return;
            }
            int kind = program.kinds[step];
            put(program.firsts[step], way * toFirst(kind, number));
            put(program.seconds[step], way * toSecond(kind, number));
            if (kind == HOLD) {
                held += way * number;
            } else if (kind == SWAP) {
                exchange(program.firsts[step], program.seconds[step]);
            } else if (kind == MARK && way == DOING) {
                marks++;
            }
        }

        boolean blocksOne(Program program, int steps) {
            for (int i = 0; i < program.size; i++) {
                if (isBit(steps, i) && obstacle(program, i, program.numbers[i], DOING) != 0) {
                    return true;
                }
            }
            return false;
        }

        private static int toFirst(int kind, int number) {
            return kind == ADD ? number : kind == SWAP || kind == MARK ? 0 : -number;
        }

        private static int toSecond(int kind, int number) {
            return kind == MOVE ? number : 0;
        }

        private int beyond(int account, int more) {
            if (account < 0 || account >= ACCOUNTS) {
                return 0;
            }
            int balance = balances[account] + more;
            return balance < 0 ? LOW : balance > HIGHEST ? HIGH : 0;
        }

        private void put(int account, int more) {
            if (account >= 0 && account < ACCOUNTS) {
                balances[account] += more;
            }
        }

        private void exchange(int first, int second) {
            if (first >= 0 && first < ACCOUNTS && second >= 0 && second < ACCOUNTS) {
                int balance = balances[first];
                balances[first] = balances[second];
                balances[second] = balance;
            }
        }
    }

    /** How far one saga is. */
    private static final class Saga {
        int state = IDLE;
        int text = NONE;
        // null while it is idle
        Program program;
        int done;
        int undone;
        int parked;
        // The steps that are done, as they became so.
        private final int[] order = new int[STEPS];
        private int depth;
        final int[] numbers = new int[STEPS];
        // A step is undone by the number by which it was done: tells() gives tries to come another one.
        private final int[] doneNumbers = new int[STEPS];
        final int[] tryPlans = new int[STEPS];
        final int[] undoPlans = new int[STEPS];
        private final int[] failures = new int[STEPS];
        final int[] reasons = new int[STEPS];

        void clear() {
            state = IDLE;
            text = NONE;
            program = null;
            done = 0;
            undone = 0;
            parked = 0;
            depth = 0;
            Arrays.fill(failures, 0);
            Arrays.fill(reasons, 0);
            dropPlans();
        }

        void dropPlans() {
            Arrays.fill(tryPlans, 0);
            Arrays.fill(undoPlans, 0);
        }

        void start(Program by, int number) {
            if (by == null) {
                return;
            }
            clear();
            state = RUNNING;
            text = number;
            program = by;
            System.arraycopy(by.numbers, 0, numbers, 0, STEPS);
        }

        void become(Saga other) {
            state = other.state;
            text = other.text;
            program = other.program;
            done = other.done;
            undone = other.undone;
            parked = other.parked;
            depth = other.depth;
            System.arraycopy(other.order, 0, order, 0, STEPS);
            System.arraycopy(other.numbers, 0, numbers, 0, STEPS);
            System.arraycopy(other.doneNumbers, 0, doneNumbers, 0, STEPS);
            System.arraycopy(other.tryPlans, 0, tryPlans, 0, STEPS);
            System.arraycopy(other.undoPlans, 0, undoPlans, 0, STEPS);
            System.arraycopy(other.failures, 0, failures, 0, STEPS);
            System.arraycopy(other.reasons, 0, reasons, 0, STEPS);
        }

        int size() {
            return program == null ? 0 : program.size;
        }

        boolean has(int step) {
            return program != null && program.has(step);
        }

        /** Whether plan() and why() may name the step: of an idle saga any that a text can have. */
        boolean mayName(int step) {
            return program == null ? isIn(step, 0, STEPS - 1) : program.has(step);
        }

        boolean isActive() {
            return state == RUNNING || state == BACK;
        }

        boolean isOver() {
            return state == DONE || state == UNDONE || state == STUCK;
        }

        boolean isAllDone() {
            return program != null && done == program.all();
        }

        boolean hasPassed() {
            return program != null && program.isPassed(done);
        }

        int front() {
            if (program == null || state != RUNNING) {
                return 0;
            }
            return program.next(done) & ~undone & ~parked;
        }

        int lastDone() {
            return depth > 0 && depth <= STEPS ? order[depth - 1] : NONE;
        }

        /** The number by which a step would be done, or was done and is undone. */
        int numberFor(int step, int way) {
            if (step < 0 || step >= STEPS) {
                return 0;
            }
            return way == DOING ? numbers[step] : doneNumbers[step];
        }

        void becomeDone(int step) {
            if (step < 0 || step >= STEPS || depth < 0 || depth >= STEPS) {
                return;
            }
            doneNumbers[step] = numbers[step];
            done |= 1 << step;
            order[depth] = step;
            depth++;
        }

        void becomeUndone(int step) {
            leaveDone(step);
            undone |= 1 << step;
        }

        void becomeParked(int step, int reason) {
            if (step < 0 || step >= STEPS) {
                return;
            }
            leaveDone(step);
            parked |= 1 << step;
            reasons[step] = reason;
        }

        /** The way back takes the last one each time: the order loses its end. */
        private void leaveDone(int step) {
            done &= ~(1 << step);
            if (depth > 0) {
                depth--;
            }
        }

        void fail(int step, int reason) {
            if (step < 0 || step >= STEPS) {
                return;
            }
            failures[step]++;
            reasons[step] = reason;
            if (program == null || !program.isPassed(done)) {
                state = BACK;
            }
        }

        boolean hasFailedOut(int step) {
            return step >= 0 && step < STEPS && failures[step] >= TRIES;
        }
    }

    /** All that ticks change. */
    private static final class World {
        private final Program[] texts;
        private final Journal journal;
        final Purse purse = new Purse();
        final Saga[] sagas = new Saga[SAGAS];

        World(Program[] texts, Journal journal) {
            this.texts = texts;
            this.journal = journal;
            for (int s = 0; s < SAGAS; s++) {
                sagas[s] = new Saga();
            }
        }

        void become(World other) {
            purse.become(other.purse);
            for (int s = 0; s < SAGAS; s++) {
                sagas[s].become(other.sagas[s]);
            }
        }

        void dropPlans() {
            for (int s = 0; s < SAGAS; s++) {
                sagas[s].dropPlans();
            }
        }

        int countActive() {
            int active = 0;
            for (int s = 0; s < SAGAS; s++) {
                if (sagas[s].isActive()) {
                    active++;
                }
            }
            return active;
        }

        /** What replay() and run() are asked for. */
        int view(int what) {
            if (!isView(what)) {
                return BAD;
            }
            if (isAccount(what)) {
                return purse.balances[what];
            }
            if (what < 10) {
                return what == 6 ? purse.held : purse.marks;
            }
            Saga saga = sagas[what % 10];
            switch (what / 10) {
                case 1: return saga.state;
                case 2: return saga.done;
                case 3: return saga.undone;
                default: return saga.parked;
            }
        }

        // ---- a tick

        void goOn() {
            for (int s = 0; s < SAGAS; s++) {
                Saga saga = sagas[s];
                if (saga.state == RUNNING) {
                    goForward(s, saga);
                } else if (saga.state == BACK) {
                    goBack(s, saga);
                }
            }
        }

        private void goForward(int s, Saga saga) {
            int front = saga.front();
            for (int i = 0; i < STEPS && saga.state == RUNNING; i++) {
                if (isBit(front, i)) {
                    tryStep(s, saga, i);
                }
            }
            if (saga.state == RUNNING && saga.isAllDone()) {
                end(s, saga, DONE);
            }
        }

        private void tryStep(int s, Saga saga, int step) {
            int number = saga.numberFor(step, DOING);
            int reason = spend(saga.tryPlans, step);
            if (reason == 0) {
                reason = purse.obstacle(saga.program, step, number, DOING);
            }
            if (reason == 0) {
                purse.change(saga.program, step, number, DOING);
                saga.becomeDone(step);
                journal.note(DONE_LINE, s, step);
                return;
            }
            saga.fail(step, reason);
            journal.note(FAILED_LINE, s, step);
            if (saga.state == RUNNING && saga.hasFailedOut(step)) {
                end(s, saga, STUCK);
            }
        }

        private void goBack(int s, Saga saga) {
            int step = saga.lastDone();
            if (step != NONE) {
                undoStep(s, saga, step);
            }
            if (saga.done == 0) {
                end(s, saga, UNDONE);
            }
        }

        private void undoStep(int s, Saga saga, int step) {
            int number = saga.numberFor(step, UNDOING);
            int reason = spend(saga.undoPlans, step);
            if (reason == 0) {
                reason = purse.obstacle(saga.program, step, number, UNDOING);
            }
            if (reason == 0) {
                purse.change(saga.program, step, number, UNDOING);
                saga.becomeUndone(step);
                journal.note(UNDONE_LINE, s, step);
                return;
            }
            saga.becomeParked(step, reason);
            journal.note(PARKED_LINE, s, step);
        }

        private void end(int s, Saga saga, int state) {
            saga.state = state;
            journal.note(ENDED_LINE, s, state);
        }

        /** Spends one of a plan: PLANNED; 0, if there is none left. */
        private static int spend(int[] plans, int step) {
            if (step < 0 || step >= plans.length || plans[step] <= 0) {
                return 0;
            }
            plans[step]--;
            return PLANNED;
        }

        // ---- replaying

        void rebuild(Journal from, int n) {
            purse.clear();
            for (int s = 0; s < SAGAS; s++) {
                sagas[s].clear();
            }
            for (int k = 0; k < n && k < from.size; k++) {
                happenAgain(from.events[k], from.owners[k], from.things[k]);
            }
        }

        private void happenAgain(int event, int owner, int thing) {
            if (event == SET_LINE) {
                if (isAccount(owner)) {
                    purse.balances[owner] = thing;
                }
            } else if (isSaga(owner)) {
                happenTo(sagas[owner], event, thing);
            }
        }

        private void happenTo(Saga saga, int event, int thing) {
            switch (event) {
                case BEGUN_LINE:
                    if (isIn(thing, 0, TEXTS - 1)) {
                        saga.start(texts[thing], thing);
                    }
                    break;
                case DONE_LINE:
                    purse.change(saga.program, thing, saga.numberFor(thing, DOING), DOING);
                    saga.becomeDone(thing);
                    break;
                case FAILED_LINE:
                    // The log does not tell why.
                    saga.fail(thing, 0);
                    break;
                case UNDONE_LINE:
                    purse.change(saga.program, thing, saga.numberFor(thing, UNDOING), UNDOING);
                    saga.becomeUndone(thing);
                    break;
                case PARKED_LINE:
                    saga.becomeParked(thing, 0);
                    break;
                default:
                    saga.state = thing;
            }
        }
    }

    /** THE LOG, with room for so many lines; without room it takes none. */
    private static final class Journal {
        final int[] events;
        final int[] owners;
        final int[] things;
        int size;

        Journal(int room) {
            int lines = Math.max(0, room);
            events = new int[lines];
            owners = new int[lines];
            things = new int[lines];
        }

        void note(int event, int owner, int thing) {
            if (size >= 0 && size < events.length) {
                events[size] = event;
                owners[size] = owner;
                things[size] = thing;
                size++;
            }
        }
    }

    /** A SHEET; of sort NONE it is missing. */
    private static final class Row {
        int sort = NONE;
        int size;
        final int[] items = new int[ITEMS];

        void renew(int newSort, int n) {
            sort = newSort;
            size = Math.max(0, Math.min(n, ITEMS));
            Arrays.fill(items, 0);
        }

        void put(int i, int v) {
            if (isIn(i, 0, size - 1)) {
                items[i] = sort == BYTES ? v & BYTE : v;
            }
        }

        boolean hasPart(int i, int n) {
            return n >= 0 && isIn(i, 0, size) && n <= size - i;
        }
    }
}
