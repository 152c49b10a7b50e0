/** Counts the answers that are not the ones that are due; a test ends with exit code 1 if there was one. */
final class Check {
    private static int asked = 0;
    private static int wrong = 0;

    private Check() {
    }

    static void due(String call, long want, long got) {
        asked++;
        if (got != want) {
            wrong++;
            System.out.println(call + " answered " + got + ", due is " + want);
        }
    }

    static void dueNoMean(String when, FusionRules x) {
        asked++;
        try {
            int got = x.mean();
            wrong++;
            System.out.println(when + ": mean() answered " + got + ", due is ArithmeticException");
        } catch (ArithmeticException expected) {
            // this is what is due
        }
    }

    /** A run's answer, and what ran() then tells: cells, asks, works, elements. */
    static void dueRun(String when, FusionRules x, int pipe, int end, long answer, int... ran) {
        due(when + ": run(" + pipe + ", " + end + ")", answer, x.run(pipe, end));
        for (int what = 0; what < ran.length; what++) {
            due(when + ": ran(" + what + ")", ran[what], x.ran(what));
        }
    }

    /** A run that answers 0, its value, and what ran() then tells. */
    static void dueValue(String when, FusionRules x, int pipe, int end, long value, int... ran) {
        dueRun(when, x, pipe, end, 0, ran);
        due(when + ": value()", value, x.value());
    }

    /** The acts of a pipe, one text each: its kind and all its numbers. */
    static void dueActs(String when, FusionRules x, int pipe, String want) {
        asked++;
        StringBuilder got = new StringBuilder();
        for (int i = 0; i < x.pipe(pipe, 0); i++) {
            got.append(i == 0 ? "" : " ").append(x.actOf(pipe, i, 0)).append(':');
            for (int k = 0; k < x.actOf(pipe, i, 1); k++) {
                got.append(k == 0 ? "" : ",").append(x.number(pipe, i, k));
            }
        }
        if (!want.contentEquals(got)) {
            wrong++;
            System.out.println(when + ": the acts are <" + got + ">, due is <" + want + ">");
        }
    }

    /** A new pipe of a range and acts, each act given as its kind and its number. */
    static void make(FusionRules x, int pipe, long from, long by, int n, long... kindsAndNumbers) {
        due("range", 1, x.range(pipe, from, by, n));
        addActs(x, pipe, kindsAndNumbers);
    }

    static void addActs(FusionRules x, int pipe, long... kindsAndNumbers) {
        for (int i = 0; i + 1 < kindsAndNumbers.length; i += 2) {
            int before = x.pipe(pipe, 0);
            due("act", before + 1, x.act(pipe, (int) kindsAndNumbers[i], kindsAndNumbers[i + 1]));
        }
    }

    /** A new row of ints. */
    static void ints(FusionRules x, int row, int... cells) {
        due("row", 1, x.row(row, 1, cells.length));
        for (int i = 0; i < cells.length; i++) {
            due("set", 1, x.set(row, i, cells[i]));
        }
    }

    static void end() {
        System.out.println(asked - wrong + " answers as due, " + wrong + " not");
        if (wrong != 0) {
            System.exit(1);
        }
    }
}
