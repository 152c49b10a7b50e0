import java.util.Arrays;

/** Pipes of acts on lists that are worked as they are wanted; DOC.md says what each call promises. */
public final class FusionRules {
    private static final int ROWS = 6;
    private static final int PIPES = 4;
    private static final int MOST_PHASES = 8;
    private static final int MOST_ACTS = 10;
    private static final int MOST_PARTS = 4;
    private static final int MOST_CELLS = 16;
    private static final int MOST_LENGTH = 40;
    private static final int MOST_NUMBER = 100;
    private static final int MOST_ASKS = 400;
    private static final int WITHOUT_END = -1;

    private static final int NO_SUCH = -1;
    private static final int OUT_OF_BOUNDS = -2;
    private static final int NONE_SO_FAR = -3;
    private static final int NO_ROOM = -4;

    private static final int NOTHING = 0;
    private static final int INTS = 1;
    private static final int BYTES = 2;
    private static final int LONGS = 3;

    private static final int ADD = 0;
    private static final int TIMES = 1;
    private static final int OVER = 2;
    private static final int PICK = 3;
    private static final int ABOVE = 4;
    private static final int EVEN = 5;
    private static final int UNLIKE = 6;
    private static final int TAKE = 7;
    private static final int SKIP = 8;
    private static final int WHILE = 9;
    private static final int SUMS = 10;
    private static final int TURN = 11;

    private static final int SUM = 0;
    private static final int COUNT = 1;
    private static final int FIRST = 2;
    private static final int LAST = 3;
    private static final int ANY = 4;
    private static final int ANY_ABOVE = 100;

    private static final int WELL = 0;
    private static final int OF_NONE = 1;
    private static final int FAULTY = -10;
    private static final int SPENT = -20;

    private static final int ROW_IS_NOTHING = 1;
    private static final int ROW_OF_OTHERS = 2;
    private static final int NO_SUCH_INDEX = 3;
    private static final int BY_ZERO = 4;

    private static final int MAP_MAP = 0;
    private static final int TEST_TEST = 1;
    private static final int TAKE_TAKE = 2;
    private static final int SKIP_SKIP = 3;
    private static final int MAP_BEHIND = 4;
    private static final int TURN_TURN = 5;
    private static final int TAKE_SKIP = 6;
    private static final int IDLE = 7;

    private static final int FITS = 0;
    private static final int OTHER_ONES = 1;
    private static final int TOO_MANY = 2;
    private static final int ENDLESS = 3;

    /** What stands for an element where there is none. */
    private static final int NONE = -1;

    private final Row[] rows;
    private final Pipe[] pipes;
    private final int[] phases;
    private final Run latest;
    private int phaseCount;
    private int runs;
    private int faultyRuns;
    private int spentRuns;
    private int wellRuns;
    private int wellCells;
    private long latestValue;

    public FusionRules() {
        rows = new Row[ROWS];
        for (int i = 0; i < ROWS; i++) {
            rows[i] = new Row();
        }
        pipes = new Pipe[PIPES];
        for (int i = 0; i < PIPES; i++) {
            pipes[i] = new Pipe();
        }
        phases = new int[MOST_PHASES];
        latest = new Run(rows);
    }

    public int row(int row, int kind, int n) {
        if (!isRow(row)) {
            return NO_SUCH;
        }
        if (kind < NOTHING || kind > LONGS || n < 0 || n > MOST_CELLS) {
            return OUT_OF_BOUNDS;
        }
        rows[row].become(kind, n);
        return 1;
    }

    public int set(int row, int i, long v) {
        if (!isRow(row) || !rows[row].has(i)) {
            return NO_SUCH;
        }
        rows[row].put(i, v);
        return 1;
    }

    public int range(int pipe, long from, long by, int n) {
        if (!isPipe(pipe)) {
            return NO_SUCH;
        }
        if (n < WITHOUT_END || n > MOST_LENGTH) {
            return OUT_OF_BOUNDS;
        }
        pipes[pipe].becomeRange(from, by, n);
        return 1;
    }

    public int fromRow(int pipe, int row) {
        if (!isPipe(pipe) || !isRow(row)) {
            return NO_SUCH;
        }
        pipes[pipe].becomeRow(row);
        return 1;
    }

    public int act(int pipe, int kind, long a) {
        if (!isPipe(pipe)) {
            return NO_SUCH;
        }
        if (kind < ADD || kind > TURN || !isNumberOf(kind, a)) {
            return OUT_OF_BOUNDS;
        }
        if (pipes[pipe].size >= MOST_ACTS) {
            return NO_ROOM;
        }
        pipes[pipe].addAct(kind, a);
        return pipes[pipe].size;
    }

    public int twin(int pipe, int other) {
        if (!isPipe(pipe) || !isPipe(other)) {
            return NO_SUCH;
        }
        pipes[pipe].becomeLike(pipes[other]);
        return pipes[pipe].size;
    }

    public int actOf(int pipe, int i, int what) {
        if (!isPipe(pipe) || !pipes[pipe].has(i)) {
            return NO_SUCH;
        }
        Act act = pipes[pipe].acts[i];
        switch (what) {
            case 0:
                return act.kinds[0];
            case 1:
                return act.parts;
            default:
                return OUT_OF_BOUNDS;
        }
    }

    public long number(int pipe, int i, int k) {
        if (!isPipe(pipe) || !pipes[pipe].has(i)) {
            return 0;
        }
        Act act = pipes[pipe].acts[i];
        return k >= 0 && k < act.parts ? act.numbers[k] : 0;
    }

    public int run(int pipe, int end) {
        if (!isPipe(pipe)) {
            return NO_SUCH;
        }
        if (end < SUM || end > ANY) {
            return OUT_OF_BOUNDS;
        }
        int answer = latest.go(pipes[pipe], end);
        keepBook(answer);
        return answer;
    }

    public long value() {
        return latestValue;
    }

    public int ran(int what) {
        if (what < 0 || what > 3) {
            return OUT_OF_BOUNDS;
        }
        if (runs == 0) {
            return NONE_SO_FAR;
        }
        switch (what) {
            case 0:
                return latest.cells;
            case 1:
                return latest.asks;
            case 2:
                return latest.elements.works;
            default:
                return latest.got;
        }
    }

    public int phase(int rule) {
        if (rule == -1) {
            phaseCount = 0;
            return 0;
        }
        if (!isRule(rule)) {
            return OUT_OF_BOUNDS;
        }
        if (phaseCount >= MOST_PHASES) {
            return NO_ROOM;
        }
        phases[phaseCount] = rule;
        phaseCount++;
        return phaseCount;
    }

    public int why(int pipe, int i, int rule) {
        if (!isPipe(pipe) || !pipes[pipe].has(i)) {
            return NO_SUCH;
        }
        if (!isRule(rule)) {
            return OUT_OF_BOUNDS;
        }
        if (rule != IDLE && !pipes[pipe].has(i + 1)) {
            return NO_SUCH;
        }
        return Rules.fit(pipes[pipe], i, rule);
    }

    public int fuse(int pipe) {
        if (!isPipe(pipe)) {
            return NO_SUCH;
        }
        int uses = 0;
        for (int i = 0; i < phaseCount; i++) {
            uses += Rules.useUp(pipes[pipe], phases[i]);
        }
        return uses;
    }

    public int pipe(int pipe, int what) {
        if (!isPipe(pipe)) {
            return NO_SUCH;
        }
        switch (what) {
            case 0:
                return pipes[pipe].size;
            case 1:
                return pipes[pipe].source;
            default:
                return OUT_OF_BOUNDS;
        }
    }

    public int count(int what) {
        switch (what) {
            case 0:
                return runs;
            case 1:
                return faultyRuns;
            case 2:
                return spentRuns;
            case 3:
                return phaseCount;
            default:
                return OUT_OF_BOUNDS;
        }
    }

    public int mean() throws ArithmeticException {
        if (wellRuns == 0) {
            throw new ArithmeticException("no run has ended well");
        }
        return wellCells / wellRuns;
    }

    private void keepBook(int answer) {
        runs++;
        if (answer == SPENT) {
            spentRuns++;
        } else if (answer < 0) {
            faultyRuns++;
        } else {
            wellRuns++;
            wellCells += latest.cells;
        }
        if (answer == WELL) {
            latestValue = latest.result;
        }
    }

    private static boolean isRow(int row) {
        return row >= 0 && row < ROWS;
    }

    private static boolean isPipe(int pipe) {
        return pipe >= 0 && pipe < PIPES;
    }

    private static boolean isRule(int rule) {
        return rule >= MAP_MAP && rule <= IDLE;
    }

    private static boolean isNumberOf(int kind, long a) {
        switch (kind) {
            case PICK:
                return a >= 0 && a < ROWS;
            case TAKE:
            case SKIP:
                return a >= 0 && a <= MOST_NUMBER;
            default:
                return true;
        }
    }

    /** Up to 16 cells of one kind; all kinds are held as longs that were cast on their way in. */
    private static final class Row {
        final long[] cells = new long[MOST_CELLS];
        int kind;
        int length;

        void become(int newKind, int n) {
            Arrays.fill(cells, 0L);
            kind = newKind;
            // a row that holds nothing has no cell, whatever n was
            length = newKind == NOTHING ? 0 : n;
        }

        boolean has(int i) {
            return i >= 0 && i < length;
        }

        void put(int i, long v) {
            switch (kind) {
                case INTS:
                    cells[i] = (int) v;
                    break;
                case BYTES:
                    cells[i] = (byte) v;
                    break;
                default:
                    cells[i] = v;
                    break;
            }
        }
    }

    /** An act; a map or test may have several parts (functions, tests), all others have one. */
    private static final class Act {
        final int[] kinds = new int[MOST_PARTS];
        final long[] numbers = new long[MOST_PARTS];
        int parts;

        void become(int kind, long a) {
            boolean looksAtIt = kind != EVEN && kind != SUMS && kind != TURN;
            kinds[0] = kind;
            numbers[0] = looksAtIt ? a : 0;
            parts = 1;
        }

        void becomeLike(Act other) {
            parts = 0;
            append(other);
        }

        void append(Act other) {
            int more = other.parts;
            for (int k = 0; k < more && parts < MOST_PARTS; k++) {
                kinds[parts] = other.kinds[k];
                numbers[parts] = other.numbers[k];
                parts++;
            }
        }

        boolean is(int kind) {
            return kinds[0] == kind;
        }

        boolean isMap() {
            return kinds[0] <= PICK;
        }

        boolean isTest() {
            return kinds[0] >= ABOVE && kinds[0] <= UNLIKE;
        }

        /** Whether it leaves every list as it is. */
        boolean isIdle() {
            return parts == 1 && (isPart(ADD, 0) || isPart(TIMES, 1) || isPart(SKIP, 0));
        }

        boolean passes(long x) {
            for (int k = 0; k < parts; k++) {
                if (!passesPart(k, x)) {
                    return false;
                }
            }
            return true;
        }

        private boolean isPart(int kind, long a) {
            return kinds[0] == kind && numbers[0] == a;
        }

        private boolean passesPart(int k, long x) {
            switch (kinds[k]) {
                case ABOVE:
                    return x > numbers[k];
                case EVEN:
                    return (x & 1) == 0;
                default:
                    return x != numbers[k];
            }
        }
    }

    /** A source and the acts behind it. */
    private static final class Pipe {
        static final int OF_RANGE = 0;
        static final int OF_ROW = 1;

        final Act[] acts = new Act[MOST_ACTS];
        int size;
        int source;
        long from;
        long by;
        int length;
        int row;

        Pipe() {
            for (int i = 0; i < MOST_ACTS; i++) {
                acts[i] = new Act();
            }
        }

        void becomeRange(long newFrom, long newBy, int n) {
            source = OF_RANGE;
            from = newFrom;
            by = newBy;
            length = n;
            size = 0;
        }

        void becomeRow(int newRow) {
            source = OF_ROW;
            row = newRow;
            size = 0;
        }

        void becomeLike(Pipe other) {
            if (other == this) {
                return;
            }
            source = other.source;
            from = other.from;
            by = other.by;
            length = other.length;
            row = other.row;
            size = other.size;
            for (int i = 0; i < size; i++) {
                acts[i].becomeLike(other.acts[i]);
            }
        }

        boolean has(int i) {
            return i >= 0 && i < size;
        }

        void addAct(int kind, long a) {
            if (size < MOST_ACTS) {
                acts[size].become(kind, a);
                size++;
            }
        }

        /** The act that goes is kept behind the others, for the next one that is added. */
        void removeAct(int i) {
            for (int j = i; j + 1 < size; j++) {
                swapWithNext(j);
            }
            size--;
        }

        void swapWithNext(int i) {
            Act first = acts[i];
            acts[i] = acts[i + 1];
            acts[i + 1] = first;
        }

        /** Whether what comes to act i is known to end. */
        boolean endsAhead(int i) {
            if (source == OF_ROW || length != WITHOUT_END) {
                return true;
            }
            for (int j = 0; j < i && j < size; j++) {
                if (acts[j].is(TAKE)) {
                    return true;
                }
            }
            return false;
        }
    }

    /** Which rule fits where, and what it makes of the acts. */
    private static final class Rules {
        // ten acts can change places 45 times at the most
        static final int MOST_USES = 1000;

        static int useUp(Pipe pipe, int rule) {
            for (int uses = 0; uses < MOST_USES; uses++) {
                int i = firstFit(pipe, rule);
                if (i == NONE) {
                    return uses;
                }
                useAt(pipe, i, rule);
            }
            return MOST_USES;
        }

        static int fit(Pipe pipe, int i, int rule) {
            if (rule == IDLE) {
                return pipe.has(i) && pipe.acts[i].isIdle() ? FITS : OTHER_ONES;
            }
            if (!pipe.has(i) || !pipe.has(i + 1)) {
                return OTHER_ONES;
            }
            Act first = pipe.acts[i];
            Act next = pipe.acts[i + 1];
            if (!areMeant(first, next, rule)) {
                return OTHER_ONES;
            }
            if (rule == TURN_TURN) {
                return pipe.endsAhead(i) ? FITS : ENDLESS;
            }
            if (rule == MAP_MAP || rule == TEST_TEST) {
                return first.parts + next.parts <= MOST_PARTS ? FITS : TOO_MANY;
            }
            return FITS;
        }

        private static boolean areMeant(Act first, Act next, int rule) {
            switch (rule) {
                case MAP_MAP:
                    return first.isMap() && next.isMap();
                case TEST_TEST:
                    return first.isTest() && next.isTest();
                case TAKE_TAKE:
                    return first.is(TAKE) && next.is(TAKE);
                case SKIP_SKIP:
                    return first.is(SKIP) && next.is(SKIP);
                case MAP_BEHIND:
                    return first.isMap() && (next.is(TAKE) || next.is(SKIP));
                case TURN_TURN:
                    return first.is(TURN) && next.is(TURN);
                case TAKE_SKIP:
                    return first.is(TAKE) && next.is(SKIP);
                default:
                    return false;
            }
        }

        private static int firstFit(Pipe pipe, int rule) {
            for (int i = 0; i < pipe.size; i++) {
                if (fit(pipe, i, rule) == FITS) {
                    return i;
                }
            }
            return NONE;
        }

        /** Only for an act that the rule fits. */
        private static void useAt(Pipe pipe, int i, int rule) {
            if (rule == IDLE) {
                pipe.removeAct(i);
                return;
            }
            Act first = pipe.acts[i];
            Act next = pipe.acts[i + 1];
            switch (rule) {
                case MAP_MAP:
                case TEST_TEST:
                    first.append(next);
                    pipe.removeAct(i + 1);
                    break;
                case TAKE_TAKE:
                    first.numbers[0] = Math.min(first.numbers[0], next.numbers[0]);
                    pipe.removeAct(i + 1);
                    break;
                case SKIP_SKIP:
                    first.numbers[0] += next.numbers[0];
                    pipe.removeAct(i + 1);
                    break;
                case TURN_TURN:
                    pipe.removeAct(i + 1);
                    pipe.removeAct(i);
                    break;
                case TAKE_SKIP:
                    first.numbers[0] = Math.max(0L, first.numbers[0] - next.numbers[0]);
                    pipe.swapWithNext(i);
                    break;
                default:
                    pipe.swapWithNext(i);
                    break;
            }
        }
    }

    /**
     * The elements of a run, by number in the order of their making, so that each stands behind
     * those it is worked from. A fault is held once for all: the first one wanted ends the run.
     */
    private static final class Elements {
        private static final int WORKED = 0;
        private static final int MAPPED = 1;
        private static final int SUMMED = 2;
        private static final int SUM_BEGUN = 3;
        // an element is looked at once ahead of each of the two values it may want, and once more
        private static final int MOST_STEPS = 4 * MOST_ASKS;

        private final Row[] rows;
        private final int[] states = new int[MOST_ASKS];
        private final long[] values = new long[MOST_ASKS];
        private final Act[] makers = new Act[MOST_ASKS];
        private final int[] inputs = new int[MOST_ASKS];
        private final int[] befores = new int[MOST_ASKS];
        private final int[] waiting = new int[MOST_ASKS];
        private int made;
        int works;
        int fault;

        Elements(Row[] rows) {
            this.rows = rows;
        }

        void clear() {
            made = 0;
            works = 0;
            fault = 0;
        }

        int addWorked(long x) {
            if (made >= MOST_ASKS) {
                return NONE;
            }
            values[made] = x;
            return add(WORKED, null, NONE, NONE);
        }

        int addMapped(Act maker, int input) {
            return add(MAPPED, maker, input, NONE);
        }

        int addSummed(int before, int input) {
            return add(SUMMED, null, input, before);
        }

        long valueOf(int element) {
            return element >= 0 && element < made ? values[element] : 0;
        }

        /**
         * Works an element and all that it waits for; whether it has a value. Sums wait for one
         * another some 200 deep, so those that wait are held in a row and not in open calls.
         */
        boolean work(int element) {
            if (!waitsFor(element)) {
                return fault == 0;
            }
            waiting[0] = element;
            int depth = 1;
            for (int step = 0; step < MOST_STEPS && depth > 0 && fault == 0; step++) {
                int top = waiting[depth - 1];
                int wanted = states[top] == MAPPED ? workMapped(top) : workSummed(top);
                if (wanted == NONE) {
                    depth--;
                } else if (depth < MOST_ASKS) {
                    waiting[depth] = wanted;
                    depth++;
                }
            }
            return fault == 0;
        }

        /** Every element takes an ask to make, so that there is always room for one. */
        private int add(int state, Act maker, int input, int before) {
            if (made >= MOST_ASKS) {
                return NONE;
            }
            states[made] = state;
            makers[made] = maker;
            inputs[made] = input;
            befores[made] = before;
            made++;
            return made - 1;
        }

        private boolean waitsFor(int element) {
            return element >= 0 && element < made && states[element] != WORKED;
        }

        /** The element that this one waits for, or none once it is worked. */
        private int workMapped(int element) {
            int input = inputs[element];
            Act maker = makers[element];
            if (waitsFor(input)) {
                return input;
            }
            long x = valueOf(input);
            for (int k = 0; maker != null && k < maker.parts && fault == 0; k++) {
                works++;
                x = apply(maker.kinds[k], maker.numbers[k], x);
            }
            return finish(element, x);
        }

        /** The element that this one waits for, or none once it is worked. */
        private int workSummed(int element) {
            int before = befores[element];
            int input = inputs[element];
            if (states[element] == SUMMED) {
                works++;
                states[element] = SUM_BEGUN;
            }
            if (waitsFor(before)) {
                return before;
            }
            if (waitsFor(input)) {
                return input;
            }
            return finish(element, valueOf(before) + valueOf(input));
        }

        private int finish(int element, long x) {
            values[element] = x;
            states[element] = WORKED;
            return NONE;
        }

        private long apply(int kind, long a, long x) {
            switch (kind) {
                case ADD:
                    return x + a;
                case TIMES:
                    return x * a;
                case OVER:
                    if (x == 0) {
                        fault = BY_ZERO;
                        return 0;
                    }
                    return a / x;
                default:
                    return pick(a, (int) x);
            }
        }

        private long pick(long row, int i) {
            if (row < 0 || row >= rows.length) {
                fault = ROW_IS_NOTHING;
                return 0;
            }
            Row picked = rows[(int) row];
            if (picked.kind == NOTHING) {
                fault = ROW_IS_NOTHING;
            } else if (picked.kind != INTS) {
                fault = ROW_OF_OTHERS;
            } else if (i < 0 || i >= picked.length) {
                fault = NO_SUCH_INDEX;
            } else {
                return picked.cells[i];
            }
            return 0;
        }
    }

    /**
     * The latest run. Level 0 is the source, level n the n-th act; who is asked at a level asks
     * the level below. Once the run has ended by a fault or is spent, all are told none.
     */
    private static final class Run {
        final Elements elements;
        int cells;
        int asks;
        int got;
        long result;
        private final Row[] rows;
        private final int[] passed = new int[MOST_ACTS + 1];
        private final boolean[] begun = new boolean[MOST_ACTS + 1];
        private final int[] befores = new int[MOST_ACTS + 1];
        private final int[] piles = new int[MOST_ACTS + 1];
        // the piles of all turns: an element, and the place of the one below it
        private final int[] piled = new int[MOST_ASKS];
        private final int[] below = new int[MOST_ASKS];
        private int piledCount;
        private Pipe pipe;
        private int sourceAt;
        private long sourceNext;
        private boolean spent;

        Run(Row[] rows) {
            this.rows = rows;
            elements = new Elements(rows);
        }

        int go(Pipe newPipe, int end) {
            clear(newPipe);
            int last = NONE;
            for (int n = 0; n <= MOST_ASKS; n++) {
                int element = ask(pipe.size);
                if (element == NONE) {
                    break;
                }
                got++;
                last = element;
                if (isEnough(element, end)) {
                    break;
                }
            }
            return close(last, end);
        }

        private void clear(Pipe newPipe) {
            pipe = newPipe;
            elements.clear();
            cells = 0;
            asks = 0;
            got = 0;
            result = 0;
            piledCount = 0;
            sourceAt = 0;
            sourceNext = newPipe.from;
            spent = false;
            Arrays.fill(passed, 0);
            Arrays.fill(befores, NONE);
            Arrays.fill(piles, NONE);
            for (int i = 0; i < begun.length; i++) {
                begun[i] = false;
            }
        }

        private boolean isEnough(int element, int end) {
            if (end == COUNT || end == LAST) {
                return false;
            }
            if (!elements.work(element)) {
                return true;
            }
            long x = elements.valueOf(element);
            switch (end) {
                case SUM:
                    result += x;
                    return false;
                case FIRST:
                    result = x;
                    return true;
                default:
                    result = x > ANY_ABOVE ? 1 : 0;
                    return result == 1;
            }
        }

        private int close(int last, int end) {
            if (end == COUNT) {
                result = got;
            }
            if (end == LAST && !isOver() && elements.work(last)) {
                result = elements.valueOf(last);
            }
            if (spent) {
                return SPENT;
            }
            if (elements.fault != 0) {
                return FAULTY - elements.fault;
            }
            return got == 0 && (end == FIRST || end == LAST) ? OF_NONE : WELL;
        }

        private boolean isOver() {
            return spent || elements.fault != 0;
        }

        private int ask(int level) {
            if (isOver()) {
                return NONE;
            }
            if (asks >= MOST_ASKS) {
                spent = true;
                return NONE;
            }
            asks++;
            if (level <= 0 || level > pipe.size) {
                return askSource();
            }
            Act act = pipe.acts[level - 1];
            int element = NONE;
            switch (act.kinds[0]) {
                case ADD:
                case TIMES:
                case OVER:
                case PICK:
                    element = askMap(act, level);
                    break;
                case ABOVE:
                case EVEN:
                case UNLIKE:
                    element = askTest(act, level);
                    break;
                case TAKE:
                    element = askTake(act, level);
                    break;
                case SKIP:
                    // what it gives costs no cell
                    return askSkip(act, level);
                case WHILE:
                    element = askWhile(act, level);
                    break;
                case SUMS:
                    element = askSums(level);
                    break;
                default:
                    element = askTurn(level);
                    break;
            }
            if (element != NONE) {
                cells++;
            }
            return element;
        }

        private int askSource() {
            if (pipe.source == Pipe.OF_ROW) {
                return askRow();
            }
            if (pipe.length != WITHOUT_END && sourceAt >= pipe.length) {
                return NONE;
            }
            long x = sourceNext;
            sourceNext += pipe.by;
            sourceAt++;
            return elements.addWorked(x);
        }

        private int askRow() {
            if (!isRow(pipe.row)) {
                return NONE;
            }
            Row row = rows[pipe.row];
            if (row.kind == NOTHING) {
                elements.fault = ROW_IS_NOTHING;
                return NONE;
            }
            if (!row.has(sourceAt)) {
                return NONE;
            }
            long x = row.cells[sourceAt];
            sourceAt++;
            return elements.addWorked(x);
        }

        private int askMap(Act act, int level) {
            int element = ask(level - 1);
            return element == NONE ? NONE : elements.addMapped(act, element);
        }

        private int askTest(Act act, int level) {
            for (int n = 0; n <= MOST_ASKS; n++) {
                int element = ask(level - 1);
                if (element == NONE || !elements.work(element)) {
                    return NONE;
                }
                if (act.passes(elements.valueOf(element))) {
                    return element;
                }
            }
            return NONE;
        }

        private int askTake(Act act, int level) {
            if (passed[level] >= act.numbers[0]) {
                return NONE;
            }
            passed[level]++;
            return ask(level - 1);
        }

        private int askSkip(Act act, int level) {
            if (!begun[level]) {
                begun[level] = true;
                for (int n = 0; n < act.numbers[0] && n <= MOST_ASKS; n++) {
                    if (ask(level - 1) == NONE) {
                        return NONE;
                    }
                }
            }
            return ask(level - 1);
        }

        /** No one that was told none asks again, so that an end needs no note here. */
        private int askWhile(Act act, int level) {
            int element = ask(level - 1);
            if (element == NONE || !elements.work(element)) {
                return NONE;
            }
            return elements.valueOf(element) < act.numbers[0] ? element : NONE;
        }

        private int askSums(int level) {
            int element = ask(level - 1);
            if (element == NONE) {
                return NONE;
            }
            befores[level] = elements.addSummed(befores[level], element);
            return befores[level];
        }

        private int askTurn(int level) {
            if (!begun[level]) {
                begun[level] = true;
                pileUp(level);
            }
            int place = piles[level];
            if (isOver() || place < 0 || place >= piledCount) {
                return NONE;
            }
            piles[level] = below[place];
            return piled[place];
        }

        private void pileUp(int level) {
            for (int n = 0; n <= MOST_ASKS && piledCount < MOST_ASKS; n++) {
                int element = ask(level - 1);
                if (element == NONE) {
                    return;
                }
                cells++;
                piled[piledCount] = element;
                below[piledCount] = piles[level];
                piles[level] = piledCount;
                piledCount++;
            }
        }
    }
}
