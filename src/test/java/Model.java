import java.util.ArrayDeque;
import java.util.ArrayList;
import java.util.Arrays;
import java.util.List;
import java.util.function.LongUnaryOperator;

/**
 * A second reading of DOC.md, with the means of the Java library: stages that ask one another,
 * elements that work themselves by recursion, faults and spent runs as exceptions.
 */
final class Model {
    private static final class Ended extends RuntimeException {
        private static final long serialVersionUID = 1L;
        final int answer;

        Ended(int answer) {
            super(null, null, false, false);
            this.answer = answer;
        }
    }

    private record Part(int kind, long a) {
    }

    private record Source(int kind, long from, long by, int n, int row) {
    }

    private static final class Line {
        Source source = new Source(0, 0, 0, 0, 0);
        List<List<Part>> acts = new ArrayList<>();
    }

    private abstract static class Element {
        private boolean worked;
        private long value;

        abstract long work();

        final long want() {
            if (!worked) {
                value = work();
                worked = true;
            }
            return value;
        }
    }

    private interface Stage {
        Element next();
    }

    private final int[] rowKinds = new int[6];
    private final long[][] rows = new long[6][0];
    private final Line[] lines = {new Line(), new Line(), new Line(), new Line()};
    private final List<Integer> phases = new ArrayList<>();
    private final List<Integer> answers = new ArrayList<>();
    private final List<Integer> cellsOfWell = new ArrayList<>();
    private long value;
    private int cells;
    private int asks;
    private int works;
    private int got;

    int row(int row, int kind, int n) {
        if (row < 0 || row > 5) {
            return -1;
        }
        if (kind < 0 || kind > 3 || n < 0 || n > 16) {
            return -2;
        }
        rowKinds[row] = kind;
        rows[row] = new long[kind == 0 ? 0 : n];
        return 1;
    }

    int set(int row, int i, long v) {
        if (row < 0 || row > 5 || i < 0 || i >= rows[row].length) {
            return -1;
        }
        rows[row][i] = rowKinds[row] == 1 ? (int) v : rowKinds[row] == 2 ? (byte) v : v;
        return 1;
    }

    int range(int pipe, long from, long by, int n) {
        if (pipe < 0 || pipe > 3) {
            return -1;
        }
        if (n < -1 || n > 40) {
            return -2;
        }
        lines[pipe] = new Line();
        lines[pipe].source = new Source(0, from, by, n, 0);
        return 1;
    }

    int fromRow(int pipe, int row) {
        if (pipe < 0 || pipe > 3 || row < 0 || row > 5) {
            return -1;
        }
        lines[pipe] = new Line();
        lines[pipe].source = new Source(1, 0, 0, 0, row);
        return 1;
    }

    int act(int pipe, int kind, long a) {
        if (pipe < 0 || pipe > 3) {
            return -1;
        }
        boolean bad = kind < 0 || kind > 11 || kind == 3 && (a < 0 || a > 5)
            || (kind == 7 || kind == 8) && (a < 0 || a > 100);
        if (bad) {
            return -2;
        }
        if (lines[pipe].acts.size() == 10) {
            return -4;
        }
        boolean blind = kind == 5 || kind == 10 || kind == 11;
        lines[pipe].acts.add(List.of(new Part(kind, blind ? 0 : a)));
        return lines[pipe].acts.size();
    }

    int twin(int pipe, int other) {
        if (pipe < 0 || pipe > 3 || other < 0 || other > 3) {
            return -1;
        }
        Line made = new Line();
        made.source = lines[other].source;
        made.acts.addAll(lines[other].acts);
        lines[pipe] = made;
        return made.acts.size();
    }

    private boolean hasAct(int pipe, int i) {
        return pipe >= 0 && pipe <= 3 && i >= 0 && i < lines[pipe].acts.size();
    }

    int actOf(int pipe, int i, int what) {
        if (!hasAct(pipe, i)) {
            return -1;
        }
        List<Part> act = lines[pipe].acts.get(i);
        return what == 0 ? act.get(0).kind : what == 1 ? act.size() : -2;
    }

    long number(int pipe, int i, int k) {
        if (!hasAct(pipe, i) || k < 0 || k >= lines[pipe].acts.get(i).size()) {
            return 0;
        }
        return lines[pipe].acts.get(i).get(k).a;
    }

    private static boolean isMap(List<Part> act) {
        return act.get(0).kind < 4;
    }

    private static boolean isTest(List<Part> act) {
        return act.get(0).kind >= 4 && act.get(0).kind <= 6;
    }

    int why(int pipe, int i, int rule) {
        if (!hasAct(pipe, i)) {
            return -1;
        }
        if (rule >= 0 && rule <= 6 && !hasAct(pipe, i + 1)) {
            return -1;
        }
        if (rule < 0 || rule > 7) {
            return -2;
        }
        List<Part> one = lines[pipe].acts.get(i);
        if (rule == 7) {
            List<Part> idle = List.of(new Part(0, 0), new Part(1, 1), new Part(8, 0));
            return one.size() == 1 && idle.contains(one.get(0)) ? 0 : 1;
        }
        List<Part> two = lines[pipe].acts.get(i + 1);
        int pair = one.get(0).kind * 100 + two.get(0).kind;
        if (rule < 2) {
            boolean meant = rule == 0 ? isMap(one) && isMap(two) : isTest(one) && isTest(two);
            return !meant ? 1 : one.size() + two.size() > 4 ? 2 : 0;
        }
        if (rule == 4) {
            return isMap(one) && (two.get(0).kind == 7 || two.get(0).kind == 8) ? 0 : 1;
        }
        if (rule == 5 && pair == 1111) {
            Source source = lines[pipe].source;
            boolean taken = lines[pipe].acts.subList(0, i).stream().anyMatch(act -> act.get(0).kind == 7);
            return source.kind == 1 || source.n >= 0 || taken ? 0 : 3;
        }
        return pair == (rule == 2 ? 707 : rule == 3 ? 808 : rule == 6 ? 708 : -1) ? 0 : 1;
    }

    int fuse(int pipe) {
        if (pipe < 0 || pipe > 3) {
            return -1;
        }
        int uses = 0;
        for (int rule : phases) {
            for (int i = 0; i < lines[pipe].acts.size();) {
                if (why(pipe, i, rule) == 0) {
                    use(lines[pipe].acts, i, rule);
                    uses++;
                    i = 0;
                } else {
                    i++;
                }
            }
        }
        return uses;
    }

    private static void use(List<List<Part>> acts, int i, int rule) {
        List<Part> one = acts.remove(i);
        List<Part> two = rule == 7 ? List.of() : acts.remove(i);
        switch (rule) {
            case 0, 1 -> {
                List<Part> both = new ArrayList<>(one);
                both.addAll(two);
                acts.add(i, both);
            }
            case 2 -> acts.add(i, one.get(0).a < two.get(0).a ? one : two);
            case 3 -> acts.add(i, List.of(new Part(8, one.get(0).a + two.get(0).a)));
            case 4 -> acts.addAll(i, Arrays.asList(two, one));
            case 6 -> acts.addAll(i,
                Arrays.asList(two, List.of(new Part(7, Math.max(0, one.get(0).a - two.get(0).a)))));
            default -> {
                // both of 5 and the one of 7 are gone
            }
        }
    }

    int phase(int rule) {
        if (rule < -1 || rule > 7) {
            return -2;
        }
        if (rule == -1) {
            phases.clear();
        } else if (phases.size() == 8) {
            return -4;
        } else {
            phases.add(rule);
        }
        return phases.size();
    }

    int pipe(int pipe, int what) {
        if (pipe < 0 || pipe > 3) {
            return -1;
        }
        return what == 0 ? lines[pipe].acts.size() : what == 1 ? lines[pipe].source.kind : -2;
    }

    int count(int what) {
        return switch (what) {
            case 0 -> answers.size();
            case 1 -> (int) answers.stream().filter(a -> a <= -11 && a >= -14).count();
            case 2 -> (int) answers.stream().filter(a -> a == -20).count();
            case 3 -> phases.size();
            default -> -2;
        };
    }

    int mean() {
        if (cellsOfWell.isEmpty()) {
            throw new ArithmeticException();
        }
        return cellsOfWell.stream().mapToInt(c -> c).sum() / cellsOfWell.size();
    }

    long value() {
        return value;
    }

    int ran(int what) {
        if (what < 0 || what > 3) {
            return -2;
        }
        return answers.isEmpty() ? -3 : new int[] {cells, asks, works, got}[what];
    }

    int run(int pipe, int end) {
        if (pipe < 0 || pipe > 3) {
            return -1;
        }
        if (end < 0 || end > 4) {
            return -2;
        }
        cells = asks = works = got = 0;
        int answer;
        try {
            answer = toEnd(stageOf(lines[pipe]), end);
            cellsOfWell.add(cells);
        } catch (Ended ended) {
            answer = ended.answer;
        }
        answers.add(answer);
        return answer;
    }

    private int toEnd(Stage stage, int end) {
        long sum = 0;
        Element last = null;
        for (Element e = stage.next(); e != null; e = stage.next()) {
            got++;
            last = e;
            if (end == 0) {
                sum += e.want();
            } else if (end == 2) {
                break;
            } else if (end == 4 && e.want() > 100) {
                sum = 1;
                break;
            }
        }
        if ((end == 2 || end == 3) && last == null) {
            return 1;
        }
        value = end == 1 ? got : end == 2 || end == 3 ? last.want() : sum;
        return 0;
    }

    private void ask() {
        if (asks == 400) {
            throw new Ended(-20);
        }
        asks++;
    }

    private Stage stageOf(Line line) {
        Stage stage = sourceOf(line.source);
        for (List<Part> act : line.acts) {
            Stage inner = counted(act, stage);
            int cost = act.get(0).kind == 8 ? 0 : 1;
            stage = () -> {
                ask();
                Element e = inner.next();
                cells += e == null ? 0 : cost;
                return e;
            };
        }
        return stage;
    }

    private Stage sourceOf(Source source) {
        int[] at = {0};
        return () -> {
            ask();
            if (source.kind == 1 && rowKinds[source.row] == 0) {
                throw new Ended(-11);
            }
            int n = source.kind == 1 ? rows[source.row].length : source.n;
            if (n != -1 && at[0] >= n) {
                return null;
            }
            long x = source.kind == 1 ? rows[source.row][at[0]] : source.from + at[0] * source.by;
            at[0]++;
            return worked(x);
        };
    }

    private static Element worked(long x) {
        return new Element() {
            @Override
            long work() {
                return x;
            }
        };
    }

    private Stage counted(List<Part> act, Stage ahead) {
        if (isMap(act)) {
            return () -> {
                Element e = ahead.next();
                return e == null ? null : mapped(act, e);
            };
        }
        if (isTest(act)) {
            return () -> {
                Element e = ahead.next();
                while (e != null && !passes(act, e.want())) {
                    e = ahead.next();
                }
                return e;
            };
        }
        long a = act.get(0).a;
        return switch (act.get(0).kind) {
            case 7 -> taking(a, ahead);
            case 8 -> skipping(a, ahead);
            case 9 -> whiling(a, ahead);
            case 10 -> summing(ahead);
            default -> turning(ahead);
        };
    }

    private Element mapped(List<Part> act, Element from) {
        return new Element() {
            @Override
            long work() {
                long x = from.want();
                for (Part part : act) {
                    works++;
                    x = functionOf(part).applyAsLong(x);
                }
                return x;
            }
        };
    }

    private LongUnaryOperator functionOf(Part part) {
        return switch (part.kind) {
            case 0 -> x -> x + part.a;
            case 1 -> x -> x * part.a;
            case 2 -> x -> {
                if (x == 0) {
                    throw new Ended(-14);
                }
                return part.a / x;
            };
            default -> x -> {
                int row = (int) part.a;
                if (rowKinds[row] != 1) {
                    throw new Ended(rowKinds[row] == 0 ? -11 : -12);
                }
                int i = (int) x;
                if (i < 0 || i >= rows[row].length) {
                    throw new Ended(-13);
                }
                return rows[row][i];
            };
        };
    }

    private static boolean passes(List<Part> act, long x) {
        return act.stream().allMatch(p -> p.kind == 4 ? x > p.a : p.kind == 5 ? x % 2 == 0 : x != p.a);
    }

    private static Stage taking(long a, Stage ahead) {
        long[] left = {a};
        return () -> left[0]-- > 0 ? ahead.next() : null;
    }

    private static Stage skipping(long a, Stage ahead) {
        long[] left = {a};
        return () -> {
            while (left[0] > 0) {
                left[0]--;
                if (ahead.next() == null) {
                    return null;
                }
            }
            return ahead.next();
        };
    }

    private static Stage whiling(long a, Stage ahead) {
        boolean[] done = {false};
        return () -> {
            Element e = done[0] ? null : ahead.next();
            done[0] = e == null || e.want() >= a;
            return done[0] ? null : e;
        };
    }

    private Stage summing(Stage ahead) {
        Element[] before = {worked(0)};
        return () -> {
            Element e = ahead.next();
            if (e == null) {
                return null;
            }
            Element previous = before[0];
            before[0] = new Element() {
                @Override
                long work() {
                    works++;
                    long x = previous.want();
                    return x + e.want();
                }
            };
            return before[0];
        };
    }

    private Stage turning(Stage ahead) {
        ArrayDeque<Element> pile = new ArrayDeque<>();
        boolean[] filled = {false};
        return () -> {
            if (!filled[0]) {
                filled[0] = true;
                for (Element e = ahead.next(); e != null; e = ahead.next()) {
                    cells++;
                    pile.push(e);
                }
            }
            return pile.poll();
        };
    }
}
