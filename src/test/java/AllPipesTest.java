/**
 * Every pipe of up to three acts out of two dozen, behind four sources, on the class and on the
 * model: run with each end, asked about, fused and run again, all answers must be the same.
 */
public final class AllPipesTest implements Names {
    private static final int MOST_ACTS = 3;
    private static final int SOURCES = 4;
    private static final int RULES = 8;
    private static final long[][] ACTS = {
        {ADD, 0}, {ADD, -3}, {TIMES, 1}, {TIMES, 2}, {TIMES, 0}, {OVER, 60}, {OVER, 0}, {PICK, 0}, {PICK, 1},
        {PICK, 2}, {ABOVE, 2}, {EVEN, 0}, {UNLIKE, 3}, {TAKE, 0}, {TAKE, 1}, {TAKE, 3}, {TAKE, 100}, {SKIP, 0},
        {SKIP, 2}, {SKIP, 100}, {WHILE, 4}, {WHILE, -100}, {SUMS, 0}, {TURN, 0},
    };

    private final FusionRules x = new FusionRules();
    private final Model m = new Model();
    private final String when;

    private AllPipesTest(int source, int[] chosen) {
        StringBuilder text = new StringBuilder("source " + source + ", acts");
        makeRows();
        makeSource(source);
        for (int each : chosen) {
            int kind = (int) ACTS[each][0];
            long a = ACTS[each][1];
            text.append(' ').append(kind).append(':').append(a);
            Check.due("act", m.act(0, kind, a), x.act(0, kind, a));
        }
        when = text.toString();
    }

    public static void main(String[] args) {
        for (int source = 0; source < SOURCES; source++) {
            for (int size = 0; size <= MOST_ACTS; size++) {
                compareAll(source, size);
            }
        }
        Check.end();
    }

    private static void compareAll(int source, int size) {
        int pipes = 1;
        for (int i = 0; i < size; i++) {
            pipes *= ACTS.length;
        }
        for (int pipe = 0; pipe < pipes; pipe++) {
            int[] chosen = new int[size];
            int rest = pipe;
            for (int i = 0; i < size; i++) {
                chosen[i] = rest % ACTS.length;
                rest /= ACTS.length;
            }
            AllPipesTest test = new AllPipesTest(source, chosen);
            test.compareRuns("");
            test.compareReasons(size);
            test.compareFused(pipe % RULES, size);
            test.compareRuns(", fused");
        }
    }

    private void makeRows() {
        x.row(0, INTS, 7);
        m.row(0, INTS, 7);
        for (int i = 0; i < 7; i++) {
            x.set(0, i, i * 30 - 40);
            m.set(0, i, i * 30 - 40);
        }
        x.row(1, INTS, 3);
        m.row(1, INTS, 3);
        x.row(2, BYTES, 3);
        m.row(2, BYTES, 3);
    }

    private void makeSource(int source) {
        switch (source) {
            case 0:
                Check.due("range", m.range(0, 5, -1, 9), x.range(0, 5, -1, 9));
                break;
            case 1:
                Check.due("range", m.range(0, -2, 1, -1), x.range(0, -2, 1, -1));
                break;
            case 2:
                Check.due("fromRow", m.fromRow(0, 0), x.fromRow(0, 0));
                break;
            default:
                Check.due("fromRow", m.fromRow(0, 5), x.fromRow(0, 5));
                break;
        }
    }

    private void compareRuns(String fused) {
        for (int end = SUM; end <= ANY; end++) {
            Check.due(when + fused + ": run", m.run(0, end), x.run(0, end));
            Check.due(when + fused + ": value", m.value(), x.value());
            for (int what = 0; what < 4; what++) {
                Check.due(when + fused + ": ran", m.ran(what), x.ran(what));
            }
        }
        for (int what = 0; what < 4; what++) {
            Check.due(when + fused + ": count", m.count(what), x.count(what));
        }
        if (x.count(0) > x.count(1) + x.count(2)) {
            Check.dueMean(when + fused, m.mean(), x);
        } else {
            Check.dueNoMean(when + fused, x);
        }
    }

    private void compareReasons(int size) {
        for (int i = -1; i <= size; i++) {
            for (int rule = 0; rule < RULES; rule++) {
                Check.due(when + ": why", m.why(0, i, rule), x.why(0, i, rule));
            }
        }
    }

    private void compareFused(int firstRule, int size) {
        for (int n = 0; n < RULES; n++) {
            int rule = (firstRule + 3 * n) % RULES;
            Check.due(when + ": phase", m.phase(rule), x.phase(rule));
        }
        Check.due(when + ": fuse", m.fuse(0), x.fuse(0));
        Check.due(when + ": pipe", m.pipe(0, 0), x.pipe(0, 0));
        for (int i = 0; i < size; i++) {
            for (int what = 0; what < 2; what++) {
                Check.due(when + ": actOf", m.actOf(0, i, what), x.actOf(0, i, what));
            }
            for (int k = 0; k < 5; k++) {
                Check.due(when + ": number", m.number(0, i, k), x.number(0, i, k));
            }
        }
    }
}
