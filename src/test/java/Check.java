/** Counts the answers that are not the ones that are due; a test ends with exit code 1 if there was one. */
final class Check {
    private static int asked = 0;
    private static int wrong = 0;
    private static int sentences = 0;
    // the promise and the sentence that the answers now belong to
    private static String about = "";

    static {
        Thread.setDefaultUncaughtExceptionHandler((thread, thrown) -> {
            tellWrong("a call threw");
            thrown.printStackTrace(System.out);
            System.exit(1);
        });
    }

    private Check() {
    }

    /** A new object for the test of one sentence of the document, which a wrong answer is told with. */
    static FusionRules sentence(int promise, String words) {
        sentences++;
        about = "promise " + promise + ", <" + words + ">: ";
        return new FusionRules();
    }

    static void due(String call, long want, long got) {
        asked++;
        if (got != want) {
            tellWrong(call + " answered " + got + ", due is " + want);
        }
    }

    private static void tellWrong(String text) {
        wrong++;
        System.out.println(about + text);
    }

    static void dueMean(String when, long want, FusionRules x) {
        try {
            due(when + ": mean()", want, x.mean());
        } catch (ArithmeticException none) {
            asked++;
            tellWrong(when + ": mean() threw an ArithmeticException, due is " + want);
        }
    }

    static void dueNoMean(String when, FusionRules x) {
        asked++;
        try {
            int got = x.mean();
            tellWrong(when + ": mean() answered " + got + ", due is ArithmeticException");
        } catch (ArithmeticException expected) {
            // this is what is due
        }
    }

    /** A run's answer, and what ran() then tells: cells, asks, works, elements. */
    static void dueRun(String when, FusionRules x, int pipe, int end, long answer, int... ran) {
        due(when + ": run(" + pipe + ", " + end + ")", answer, x.run(pipe, end));
        for (int what = 0; what < ran.length; what++) {
            due(when + ": ran(" + what + ")", ran[what], x.ran(what));
        }
    }

    /** A run that answers 0, its value, and what ran() then tells. */
    static void dueValue(String when, FusionRules x, int pipe, int end, long value, int... ran) {
        dueRun(when, x, pipe, end, 0, ran);
        due(when + ": value()", value, x.value());
    }

    /** The acts of a pipe, one text each: its kind and all its numbers. */
    static void dueActs(String when, FusionRules x, int pipe, String want) {
        asked++;
        StringBuilder got = new StringBuilder();
        for (int i = 0; i < x.pipe(pipe, 0); i++) {
            got.append(i == 0 ? "" : " ").append(x.actOf(pipe, i, 0)).append(':');
            for (int k = 0; k < x.actOf(pipe, i, 1); k++) {
                got.append(k == 0 ? "" : ",").append(x.number(pipe, i, k));
            }
        }
        if (!want.contentEquals(got)) {
            tellWrong(when + ": the acts are <" + got + ">, due is <" + want + ">");
        }
    }

    /**
     * Whether two objects are alike in all that calls can tell. Both are used up by it: cells and
     * phases are seen only in what runs and fusions make of them.
     */
    static void dueAlike(String when, FusionRules want, FusionRules got) {
        asked++;
        String wanted = State.of(want);
        String found = State.of(got);
        if (!wanted.equals(found)) {
            tellWrong(when + ": the state is" + found + "\n  due is" + wanted);
        }
    }

    /** A new pipe of a range and acts, each act given as its kind and its number. */
    static void make(FusionRules x, int pipe, long from, long by, int n, long... kindsAndNumbers) {
        due("range", 1, x.range(pipe, from, by, n));
        addActs(x, pipe, kindsAndNumbers);
    }

    static void addActs(FusionRules x, int pipe, long... kindsAndNumbers) {
        for (int i = 0; i + 1 < kindsAndNumbers.length; i += 2) {
            int before = x.pipe(pipe, 0);
            due("act", before + 1, x.act(pipe, (int) kindsAndNumbers[i], kindsAndNumbers[i + 1]));
        }
    }

    /** A new row of ints. */
    static void ints(FusionRules x, int row, int... cells) {
        due("row", 1, x.row(row, 1, cells.length));
        for (int i = 0; i < cells.length; i++) {
            due("set", 1, x.set(row, i, cells[i]));
        }
    }

    static void end() {
        String told = sentences == 0 ? "" : sentences + " sentences, ";
        System.out.println(told + (asked - wrong) + " answers as due, " + wrong + " not");
        if (wrong != 0) {
            System.exit(1);
        }
    }
}
