/**
 * Made-up runs of some hundreds of calls on the class and on the model: every answer must be
 * the same. The numbers come from a fixed rule, so that each try of this test makes the same calls.
 */
public final class ModelTest {
    private static final int OBJECTS = 8000;
    private static final int ROUNDS = 150;
    private static final long[] ODD_NUMBERS = {
        Long.MIN_VALUE, Long.MAX_VALUE, Integer.MIN_VALUE, Integer.MAX_VALUE, 1L << 32, -1, 101, 128,
    };

    private long state;

    private ModelTest(long seed) {
        state = seed;
    }

    public static void main(String[] args) {
        int[] runAnswers = new int[32];
        for (int object = 1; object <= OBJECTS; object++) {
            new ModelTest(object * 7919L).compare(object, runAnswers);
        }
        for (int answer : new int[] {1, 0, -1, -2, -11, -12, -13, -14, -20}) {
            Check.due("runs that answered " + answer + " were many", 1, runAnswers[answer + 20] > 500 ? 1 : 0);
        }
        Check.end();
    }

    private int upTo(int bound) {
        state = state * 6364136223846793005L + 1442695040888963407L;
        return (int) ((state >>> 33) % bound);
    }

    /** Mostly within 0 to last, now and then outside. */
    private int about(int last) {
        return upTo(40) == 0 ? (upTo(2) == 0 ? -1 - upTo(2) : last + 1 + upTo(2)) : upTo(last + 1);
    }

    private long anyNumber() {
        return upTo(20) == 0 ? ODD_NUMBERS[upTo(ODD_NUMBERS.length)] : upTo(30) - 8;
    }

    private long numberFor(int kind) {
        switch (kind) {
            case 1:
                return upTo(4) - 1;
            case 3:
                return about(5);
            case 7:
                return upTo(10) == 0 ? about(100) : upTo(12);
            case 8:
                return upTo(10) == 0 ? about(100) : upTo(4);
            default:
                return anyNumber();
        }
    }

    private void compare(int object, int[] runAnswers) {
        FusionRules x = new FusionRules();
        Model m = new Model();
        for (int round = 0; round < ROUNDS; round++) {
            compareOne("object " + object + ", round " + round, x, m, runAnswers);
        }
    }

    private void compareOne(String when, FusionRules x, Model m, int[] runAnswers) {
        int p = about(3);
        int i = about(5);
        long v = anyNumber();
        switch (upTo(20)) {
            case 0:
                int kind = upTo(3) > 0 ? 1 : about(3);
                int n = about(16);
                Check.due(when + " row", m.row(i, kind, n), x.row(i, kind, n));
                break;
            case 1:
                int cell = about(9);
                Check.due(when + " set", m.set(i, cell, v), x.set(i, cell, v));
                break;
            case 2:
                int length = upTo(4) == 0 ? -1 : about(40);
                long by = upTo(3) > 0 ? 1 : anyNumber();
                Check.due(when + " range", m.range(p, v, by, length), x.range(p, v, by, length));
                break;
            case 3:
                Check.due(when + " fromRow", m.fromRow(p, i), x.fromRow(p, i));
                break;
            case 4:
                int rule = upTo(4) == 0 ? -1 : about(7);
                Check.due(when + " phase", m.phase(rule), x.phase(rule));
                break;
            case 5:
                Check.due(when + " fuse", m.fuse(p), x.fuse(p));
                break;
            case 6:
                int other = about(3);
                Check.due(when + " twin", m.twin(p, other), x.twin(p, other));
                break;
            case 7, 8:
                askAbout(when, x, m, p);
                break;
            case 9, 10, 11, 12:
                compareRun(when, x, m, p, runAnswers);
                break;
            default:
                int act = about(11);
                long a = numberFor(act);
                Check.due(when + " act", m.act(p, act, a), x.act(p, act, a));
                break;
        }
    }

    private void askAbout(String when, FusionRules x, Model m, int p) {
        int i = about(6);
        int k = about(3);
        int rule = about(7);
        Check.due(when + " actOf", m.actOf(p, i, k - 1), x.actOf(p, i, k - 1));
        Check.due(when + " number", m.number(p, i, k), x.number(p, i, k));
        Check.due(when + " why", m.why(p, i, rule), x.why(p, i, rule));
        Check.due(when + " pipe", m.pipe(p, k - 1), x.pipe(p, k - 1));
        Check.due(when + " count", m.count(k), x.count(k));
        Check.due(when + " ran", m.ran(k), x.ran(k));
    }

    private void compareRun(String when, FusionRules x, Model m, int p, int[] runAnswers) {
        int end = about(4);
        int answer = x.run(p, end);
        runAnswers[answer + 20]++;
        Check.due(when + " run", m.run(p, end), answer);
        Check.due(when + " value", m.value(), x.value());
        for (int what = 0; what < 4; what++) {
            Check.due(when + " ran " + what, m.ran(what), x.ran(what));
        }
        Check.due(when + " mean", meanOf(m), meanOf(x));
    }

    private static int meanOf(FusionRules x) {
        try {
            return x.mean();
        } catch (ArithmeticException none) {
            return -1;
        }
    }

    private static int meanOf(Model m) {
        try {
            return m.mean();
        } catch (ArithmeticException none) {
            return -1;
        }
    }
}
