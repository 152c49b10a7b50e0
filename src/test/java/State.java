/** All that can be told of an object, as a text; the object is changed by the asking. */
final class State implements Names {
    private final FusionRules x;
    private final StringBuilder text = new StringBuilder();

    private State(FusionRules x) {
        this.x = x;
    }

    static String of(FusionRules x) {
        State state = new State(x);
        state.tellBooks();
        for (int pipe = 0; pipe < 4; pipe++) {
            state.tellPipe(pipe);
        }
        for (int row = 0; row < 6; row++) {
            state.tellRow(row);
        }
        state.tellPhases();
        return state.text.toString();
    }

    private void add(String name, long number) {
        text.append(' ').append(name).append(' ').append(number);
    }

    /** What was counted so far; first, as the other questions count on. */
    private void tellBooks() {
        for (int what = 0; what < 4; what++) {
            add("count", x.count(what));
            add("ran", x.ran(what));
        }
        add("value", x.value());
        try {
            add("mean", x.mean());
        } catch (ArithmeticException none) {
            text.append(" no mean");
        }
    }

    private void tellPipe(int pipe) {
        text.append("\n  pipe ").append(pipe).append(':');
        add("source", x.pipe(pipe, 1));
        for (int i = 0; i < x.pipe(pipe, 0); i++) {
            add("kind", x.actOf(pipe, i, 0));
            for (int k = 0; k < x.actOf(pipe, i, 1); k++) {
                add("number", x.number(pipe, i, k));
            }
        }
        tellRun(pipe, COUNT);
        tellRun(pipe, SUM);
        tellRun(pipe, LAST);
    }

    private void tellRun(int pipe, int end) {
        add("run", x.run(pipe, end));
        add("value", x.value());
        add("asks", x.ran(1));
    }

    private void tellRow(int row) {
        text.append("\n  row ").append(row).append(':');
        x.range(0, 0, 0, 1);
        x.act(0, PICK, row);
        add("picked", x.run(0, LAST));
        for (int i = 0; i < 16; i++) {
            x.fromRow(0, row);
            x.act(0, SKIP, i);
            int answer = x.run(0, FIRST);
            add("cell", answer == 0 ? x.value() : answer);
            if (answer != 0) {
                break;
            }
        }
        // bytes and longs answer alike till one is cast
        add("set", x.set(row, 0, 300));
        x.fromRow(0, row);
        tellRun(0, FIRST);
    }

    /** A pipe that each rule makes something else of. */
    private void tellPhases() {
        text.append("\n  phases:");
        Check.make(x, 0, 1, 1, 9, TURN, 0, TURN, 0, ADD, 0, TIMES, 3, TAKE, 6, TAKE, 5, SKIP, 1, SKIP, 1,
            EVEN, 0, ABOVE, 1);
        add("uses", x.fuse(0));
        for (int i = 0; i < x.pipe(0, 0); i++) {
            add("kind", x.actOf(0, i, 0));
            add("parts", x.actOf(0, i, 1));
            add("number", x.number(0, i, 0));
        }
    }
}
