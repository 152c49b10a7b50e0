/** Promises 10 to 12, 17 and 18: run, value, ran, count, mean; and what each act does in a run. */
public final class RunTest {
    private static final int SUM = 0;
    private static final int COUNT = 1;
    private static final int FIRST = 2;
    private static final int LAST = 3;
    private static final int ANY = 4;

    private static final int ADD = 0;
    private static final int TIMES = 1;
    private static final int OVER = 2;
    private static final int PICK = 3;
    private static final int ABOVE = 4;
    private static final int EVEN = 5;
    private static final int UNLIKE = 6;
    private static final int TAKE = 7;
    private static final int SKIP = 8;
    private static final int WHILE = 9;
    private static final int SUMS = 10;
    private static final int TURN = 11;

    public static void main(String[] args) {
        mapsWork();
        picksFault();
        testsAsk();
        takesAndSkipsHandOn();
        whilesEnd();
        sumsAreWorkedInRow();
        turnsPileUp();
        endsWantWhatTheyNeed();
        elementsAreWorkedOnce();
        faultsEndTheRun();
        partsAreWorkedInRow();
        asksAreSpent();
        deepSumsAreWorked();
        tenActsOfAKind();
        runsStartAnew();
        valueStays();
        ranTells();
        runRefuses();
        countTells();
        meanIsCut();
        Check.end();
    }

    private static void mapsWork() {
        FusionRules x = new FusionRules();
        Check.make(x, 0, Long.MAX_VALUE, 0, 1, ADD, 1);
        Check.dueValue("add wraps", x, 0, SUM, Long.MIN_VALUE, 1, 4, 1, 1);
        Check.make(x, 0, Long.MAX_VALUE, 0, 1, TIMES, 2);
        Check.dueValue("times wraps", x, 0, SUM, -2);
        Check.make(x, 0, -2, 0, 1, OVER, 7);
        Check.dueValue("over is cut", x, 0, SUM, -3);
        Check.make(x, 0, -1, 0, 1, OVER, Long.MIN_VALUE);
        Check.dueValue("the least over -1", x, 0, SUM, Long.MIN_VALUE);
        Check.ints(x, 4, 11, -12, 13);
        Check.make(x, 0, 2, -1, 3, PICK, 4);
        Check.dueValue("pick", x, 0, LAST, 11, 3, 8, 1, 3);
        Check.make(x, 0, 0x7_0000_0001L, 0, 1, PICK, 4);
        Check.dueValue("pick by the lowest 32 bits", x, 0, SUM, -12);
        Check.make(x, 0, 0x0_8000_0001L, 0, 1, PICK, 4);
        Check.dueRun("pick by the lowest 32 bits", x, 0, SUM, -13);
    }

    private static void picksFault() {
        FusionRules x = new FusionRules();
        Check.make(x, 0, 0, 1, 1, PICK, 0);
        Check.dueRun("pick of nothing", x, 0, SUM, -11, 1, 2, 1, 1);
        x.row(0, 2, 1);
        Check.dueRun("pick of bytes", x, 0, SUM, -12);
        x.row(0, 3, 1);
        Check.dueRun("pick of longs", x, 0, SUM, -12);
        x.row(0, 3, 0);
        Check.dueRun("pick of no longs", x, 0, SUM, -12);
        x.row(0, 1, 0);
        Check.dueRun("pick of no ints", x, 0, SUM, -13);
        x.row(0, 1, 1);
        Check.dueValue("pick", x, 0, SUM, 0);
        Check.make(x, 0, 1, 1, 1, PICK, 0);
        Check.dueRun("pick behind the last", x, 0, SUM, -13);
        Check.make(x, 0, -1, 1, 1, PICK, 0);
        Check.dueRun("pick ahead of the first", x, 0, SUM, -13);
    }

    private static void testsAsk() {
        FusionRules x = new FusionRules();
        Check.make(x, 0, -3, 1, 7, ABOVE, 1);
        Check.dueValue("above", x, 0, SUM, 5, 2, 11, 0, 2);
        Check.make(x, 0, -3, 1, 7, EVEN, 1);
        Check.dueValue("even", x, 0, COUNT, 3, 3, 12, 0, 3);
        Check.dueValue("even", x, 0, FIRST, -2, 1, 3, 0, 1);
        Check.make(x, 0, -3, 1, 7, UNLIKE, 3);
        Check.dueValue("unlike", x, 0, SUM, -3, 6, 15, 0, 6);
        Check.make(x, 0, 0, 1, 5, ABOVE, 10);
        Check.dueRun("none is above", x, 0, FIRST, 1, 0, 7, 0, 0);
        Check.make(x, 0, 1, 1, 6, TIMES, 3, EVEN, 0);
        Check.dueValue("a test wants its values, count does not", x, 0, COUNT, 3, 9, 18, 6, 3);
    }

    private static void takesAndSkipsHandOn() {
        FusionRules x = new FusionRules();
        Check.make(x, 0, 1, 1, 10, TAKE, 3);
        Check.dueValue("take", x, 0, SUM, 6, 3, 7, 0, 3);
        Check.make(x, 0, 1, 1, 2, TAKE, 3);
        Check.dueValue("take of fewer", x, 0, SUM, 3, 2, 6, 0, 2);
        Check.make(x, 0, 1, 1, -1, TAKE, 0);
        Check.dueValue("take 0", x, 0, SUM, 0, 0, 1, 0, 0);
        x.fromRow(0, 0);
        x.act(0, TAKE, 0);
        Check.dueValue("take 0 does not ask a row of nothing", x, 0, COUNT, 0, 0, 1, 0, 0);
        Check.make(x, 0, 1, 1, 10, SKIP, 3);
        Check.dueValue("skip", x, 0, SUM, 49, 0, 19, 0, 7);
        Check.dueValue("skip", x, 0, FIRST, 4, 0, 5, 0, 1);
        Check.make(x, 0, 1, 1, 3, SKIP, 5);
        Check.dueValue("skip of fewer asks no more", x, 0, COUNT, 0, 0, 5, 0, 0);
        Check.make(x, 0, 1, 1, 3, SKIP, 3);
        Check.dueValue("skip of all", x, 0, COUNT, 0, 0, 5, 0, 0);
        Check.make(x, 0, 0, 1, 3, OVER, 6, SKIP, 1);
        Check.dueValue("nothing is wanted of the skipped", x, 0, SUM, 9, 3, 3 + 4 + 4, 2, 2);
    }

    private static void whilesEnd() {
        FusionRules x = new FusionRules();
        Check.make(x, 0, 1, 1, -1, WHILE, 4);
        Check.dueValue("while", x, 0, SUM, 6, 3, 8, 0, 3);
        Check.make(x, 0, 4, -1, 3, WHILE, 4);
        Check.dueValue("while from none on", x, 0, COUNT, 0, 0, 2, 0, 0);
        Check.make(x, 0, 1, 1, 2, WHILE, 4);
        Check.dueValue("while to the end", x, 0, COUNT, 2, 2, 6, 0, 2);
        Check.make(x, 0, 1, 1, 5, TIMES, 2, WHILE, 7, TURN, 0);
        Check.dueValue("while wants its values", x, 0, COUNT, 3, 4 + 3 + 6, 4 + 4 + 4 + 4, 4, 3);
    }

    private static void sumsAreWorkedInRow() {
        FusionRules x = new FusionRules();
        Check.make(x, 0, 1, 1, 4, SUMS, 0);
        Check.dueValue("sums", x, 0, SUM, 1 + 3 + 6 + 10, 4, 10, 4, 4);
        Check.dueValue("the last sum wants all", x, 0, LAST, 10, 4, 10, 4, 4);
        Check.dueValue("count wants none", x, 0, COUNT, 4, 4, 10, 0, 4);
        Check.make(x, 0, Long.MAX_VALUE, 1, 2, SUMS, 0);
        Check.dueValue("sums wrap", x, 0, LAST, -1);
        Check.make(x, 0, 2, -1, 3, OVER, 6, SUMS, 0);
        Check.dueRun("all sums are begun ahead of the values", x, 0, LAST, -14, 6, 12, 3 + 3, 3);
        Check.make(x, 0, 0, 1, 3, OVER, 6, SUMS, 0);
        Check.dueRun("the one before comes first", x, 0, LAST, -14, 6, 12, 3 + 1, 3);
        Check.make(x, 0, 0, 1, 3, OVER, 6, SUMS, 0, SUMS, 0);
        Check.dueRun("sums of sums", x, 0, LAST, -14, 9, 16, 3 + 1 + 1, 3);
        Check.make(x, 0, 1, 1, 5, SUMS, 0, SUMS, 0);
        Check.dueValue("sums of sums", x, 0, LAST, 35, 10, 18, 10, 5);
    }

    private static void turnsPileUp() {
        FusionRules x = new FusionRules();
        Check.make(x, 0, 1, 1, 4, TURN, 0);
        Check.dueValue("the last first", x, 0, FIRST, 4, 5, 6, 0, 1);
        Check.dueValue("the first last", x, 0, LAST, 1, 8, 10, 0, 4);
        Check.make(x, 0, 1, 1, 4, TURN, 0, TAKE, 3, TURN, 0);
        Check.dueValue("turn take turn", x, 0, FIRST, 2, 4 + 3 + 3 + 3 + 1, 1 + 4 + 3 + 5, 0, 1);
        Check.make(x, 0, 1, 1, 0, TURN, 0);
        Check.dueRun("turn of none", x, 0, LAST, 1, 0, 2, 0, 0);
        Check.make(x, 0, 1, 1, 3, SUMS, 0, TURN, 0);
        Check.dueValue("turned sums", x, 0, FIRST, 6, 7, 9, 3, 1);
        Check.make(x, 0, 0, 1, 3, OVER, 6, TURN, 0, TAKE, 2);
        Check.dueValue("a turned fault is not wanted", x, 0, SUM, 9, 3 + 3 + 2 + 2, 3 + 2 + 4 + 4, 2, 2);
    }

    private static void endsWantWhatTheyNeed() {
        FusionRules x = new FusionRules();
        Check.make(x, 0, 98, 1, 6, ADD, 1);
        Check.dueValue("sum", x, 0, SUM, 609, 6, 14, 6, 6);
        Check.dueValue("count", x, 0, COUNT, 6, 6, 14, 0, 6);
        Check.dueValue("first", x, 0, FIRST, 99, 1, 2, 1, 1);
        Check.dueValue("last", x, 0, LAST, 104, 6, 14, 1, 6);
        Check.dueValue("any: 100 is not above", x, 0, ANY, 1, 3, 6, 3, 3);
        Check.make(x, 0, 95, 1, 6);
        Check.dueValue("any: none", x, 0, ANY, 0, 0, 7, 0, 6);
        Check.make(x, 0, 0, 1, 0);
        Check.dueValue("any of none", x, 0, ANY, 0);
        Check.dueValue("sum of none", x, 0, SUM, 0);
        Check.dueRun("first of none", x, 0, FIRST, 1);
        Check.dueRun("last of none", x, 0, LAST, 1);
        Check.make(x, 0, Long.MAX_VALUE, 0, 2);
        Check.dueValue("sum wraps", x, 0, SUM, -2);
    }

    private static void elementsAreWorkedOnce() {
        FusionRules x = new FusionRules();
        Check.make(x, 0, 1, 1, 4, ADD, 1, UNLIKE, 9, ABOVE, 0, WHILE, 50, TURN, 0, SUMS, 0, EVEN, 0);
        Check.dueValue("each map once, each sum once", x, 0, SUM, 12 + 14, 6 * 4 + 4 + 2, 3 + 7 * 5, 4 + 4, 2);
    }

    private static void faultsEndTheRun() {
        FusionRules x = new FusionRules();
        Check.make(x, 0, 2, -1, 9, OVER, 6, UNLIKE, 1);
        Check.dueRun("a test wants a fault", x, 0, COUNT, -14, 5, 9, 3, 2);
        Check.make(x, 0, 2, -1, 9, OVER, 6, WHILE, 100);
        Check.dueRun("a while wants a fault", x, 0, COUNT, -14, 5, 9, 3, 2);
        Check.make(x, 0, 2, -1, 9, OVER, 6, UNLIKE, 1, TURN, 0);
        Check.dueRun("a fault under a turn", x, 0, COUNT, -14, 3 + 2 + 2, 1 + 3 + 3 + 3, 3, 0);
        Check.make(x, 0, 2, -1, 9, OVER, 6, UNLIKE, 1, SKIP, 5);
        Check.dueRun("a fault under a skip", x, 0, COUNT, -14, 3 + 2, 1 + 3 + 3 + 3, 3, 0);
        Check.make(x, 0, 2, -1, 9, OVER, 6, ADD, 1);
        Check.dueRun("a function is begun behind its value", x, 0, SUM, -14, 6, 9, 5, 3);
        Check.dueRun("last wants the last alone", x, 0, LAST, 0);
        x.fromRow(0, 3);
        Check.addActs(x, 0, ADD, 1, TURN, 0);
        Check.dueRun("a row of nothing", x, 0, COUNT, -11, 0, 3, 0, 0);
        Check.dueRun("a row of nothing", x, 0, LAST, -11, 0, 3, 0, 0);
    }

    private static void partsAreWorkedInRow() {
        FusionRules x = new FusionRules();
        x.phase(0);
        x.phase(1);
        Check.make(x, 0, 1, 1, 3, ADD, -2, OVER, 12, TIMES, 5, ADD, 1);
        Check.due("fuse", 3, x.fuse(0));
        Check.dueValue("four functions in row", x, 0, FIRST, -59, 1, 2, 4, 1);
        Check.dueRun("the third is not begun", x, 0, SUM, -14, 2, 4, 4 + 2, 2);
        Check.make(x, 0, -3, 1, 20, ABOVE, 1, EVEN, 0, UNLIKE, 8, ABOVE, 3);
        Check.due("fuse", 3, x.fuse(0));
        Check.dueValue("all tests are so", x, 0, SUM, 4 + 6 + 10 + 12 + 14 + 16, 6, 28, 0, 6);
    }

    private static void asksAreSpent() {
        FusionRules x = new FusionRules();
        Check.make(x, 0, 1, 1, -1);
        Check.dueRun("no acts", x, 0, COUNT, -20, 0, 400, 0, 400);
        Check.dueRun("no acts", x, 0, SUM, -20, 0, 400, 0, 400);
        Check.make(x, 0, 1, 1, -1, ABOVE, -1, ADD, 1);
        Check.dueRun("two acts", x, 0, LAST, -20, 266, 400, 0, 133);
        Check.make(x, 0, 1, 1, -1, ABOVE, Long.MAX_VALUE);
        Check.dueRun("no one is so", x, 0, FIRST, -20, 0, 400, 0, 0);
        Check.make(x, 0, 1, 1, -1, TURN, 0);
        Check.dueRun("a turn without end", x, 0, FIRST, -20, 399, 400, 0, 0);
        Check.make(x, 0, 1, 0, -1, TAKE, 100, SKIP, 99, SKIP, 98);
        Check.dueRun("asked enough", x, 0, COUNT, 0, 100, 1 + 2 + 101 + 100, 0, 0);
        Check.make(x, 0, 1, 0, -1, SKIP, 100, SKIP, 98);
        Check.dueRun("198 skipped", x, 0, FIRST, 0, 0, 1 + 99 + 199, 0, 1);
        Check.make(x, 0, 1, 0, -1, ADD, 1, SKIP, 100, SKIP, 32);
        Check.dueRun("300 asks", x, 0, FIRST, 0, 133, 1 + 33 + 133 + 133, 1, 1);
        Check.make(x, 0, 1, 0, -1, ADD, 1, SKIP, 100, SKIP, 74);
        Check.dueRun("401 asks and more", x, 0, FIRST, -20, 101 + 65, 400, 0, 0);
        Check.make(x, 0, 5, 0, -1, SKIP, 100, SKIP, 97, SKIP, 0);
        Check.dueValue("fewer than 400", x, 0, FIRST, 5, 0, 1 + 1 + 98 + 198, 0, 1);
        exactlyFourHundred();
    }

    private static void exactlyFourHundred() {
        FusionRules x = new FusionRules();
        x.phase(3);
        Check.make(x, 0, 5, 0, -1, SKIP, 100, SKIP, 100, SKIP, 100, SKIP, 98);
        Check.due("fuse", 3, x.fuse(0));
        Check.due("more than 100 together", 398, x.number(0, 0, 0));
        Check.dueValue("the 400th is done", x, 0, FIRST, 5, 0, 400, 0, 1);
        Check.make(x, 0, 5, 0, -1, SKIP, 100, SKIP, 100, SKIP, 100, SKIP, 99);
        Check.due("fuse", 3, x.fuse(0));
        Check.dueRun("the 401st is not", x, 0, FIRST, -20, 0, 400, 0, 0);
        Check.make(x, 1, 5, 0, -1, SKIP, 100, SKIP, 100, SKIP, 100, SKIP, 100, SKIP, 100);
        x.fuse(1);
        Check.due("more than all asks", 500, x.number(1, 0, 0));
        Check.dueRun("more than all asks", x, 1, FIRST, -20, 0, 400, 0, 0);
    }

    private static void deepSumsAreWorked() {
        FusionRules x = new FusionRules();
        x.phase(3);
        Check.make(x, 0, 1, 1, -1, SUMS, 0, SKIP, 100, SKIP, 98);
        x.fuse(0);
        Check.dueValue("199 sums", x, 0, FIRST, 199 * 200 / 2, 199, 399, 199, 1);
        Check.make(x, 0, 1, 0, -1, SUMS, 0, SUMS, 0, SUMS, 0, SUMS, 0, SUMS, 0, SUMS, 0, SUMS, 0,
            SUMS, 0, SUMS, 0, SKIP, 35);
        Check.dueValue("sums of sums of sums", x, 0, FIRST, 708930508L, 9 * 36, 1 + 360, 9 * 36, 1);
    }

    private static void tenActsOfAKind() {
        long[] numbers = {1, 2, 6, 1, 1, 0, 2, 2, 0, 3, 0, 0};
        long[] sums = {11 + 12 + 13, 1024 * 6, 1 + 2 + 3, 1 + 0 + 2, 2 + 3, 2, 1 + 3, 1 + 2, 6, 1 + 2, 1 + 12 + 78, 6};
        for (int kind = ADD; kind <= TURN; kind++) {
            FusionRules x = new FusionRules();
            Check.ints(x, 1, 3, 1, 0, 2);
            x.range(0, 1, 1, 3);
            for (int i = 0; i < 10; i++) {
                x.act(0, kind, numbers[kind]);
            }
            Check.dueValue("ten of kind " + kind, x, 0, SUM, sums[kind]);
        }
        FusionRules x = new FusionRules();
        x.phase(7);
        Check.make(x, 0, 1, 1, 3, SKIP, 0, SKIP, 0, SKIP, 0, SKIP, 0, SKIP, 0);
        Check.addActs(x, 0, ADD, 0, ADD, 0, ADD, 0, ADD, 0, ADD, 0);
        Check.due("all ten go", 10, x.fuse(0));
        Check.dueValue("all ten are gone", x, 0, SUM, 6, 0, 4, 0, 3);
    }

    private static void runsStartAnew() {
        FusionRules x = new FusionRules();
        Check.make(x, 0, 1, 1, 30, ADD, 1, SKIP, 2, SUMS, 0, TURN, 0, TAKE, 20, WHILE, 1000);
        for (int i = 0; i < 30; i++) {
            int asks = 31 + 31 + 29 + 29 + 20 + 21 + 21;
            Check.dueValue("run " + i, x, 0, FIRST, 490, 30 + 28 + 28 + 3, 31 + 31 + 29 + 29 + 3, 56, 1);
            Check.dueRun("run " + i, x, 0, COUNT, 0, 30 + 28 + 28 + 60, asks, 56, 20);
        }
    }

    private static void valueStays() {
        FusionRules x = new FusionRules();
        Check.due("none so far", 0, x.value());
        Check.make(x, 0, 0, 1, 0);
        Check.dueRun("first of none", x, 0, FIRST, 1);
        Check.due("still none", 0, x.value());
        Check.make(x, 0, 21, 1, 2);
        Check.dueValue("sum", x, 0, SUM, 43);
        Check.make(x, 1, 0, 1, 1, OVER, 1);
        Check.dueRun("a fault", x, 1, SUM, -14);
        Check.due("stays", 43, x.value());
        Check.make(x, 1, 0, 1, -1);
        Check.dueRun("spent", x, 1, SUM, -20);
        Check.due("stays", 43, x.value());
        Check.make(x, 1, 0, 1, 0);
        Check.dueRun("none", x, 1, LAST, 1);
        Check.due("stays", 43, x.value());
        Check.dueRun("refused", x, 4, SUM, -1);
        Check.due("stays", 43, x.value());
        Check.dueValue("sum of none", x, 1, SUM, 0);
    }

    private static void ranTells() {
        FusionRules x = new FusionRules();
        Check.due("none so far", -3, x.ran(0));
        Check.due("none so far", -3, x.ran(3));
        Check.due("what -1", -2, x.ran(-1));
        Check.due("what 4", -2, x.ran(4));
        x.run(-1, 0);
        x.run(0, 5);
        Check.due("refused ones are none", -3, x.ran(1));
        Check.make(x, 0, 1, 1, 2, ADD, 1);
        Check.dueRun("a run", x, 0, SUM, 0, 2, 6, 2, 2);
        x.run(0, 5);
        x.range(0, 0, 0, 0);
        Check.due("of the latest", 6, x.ran(1));
        Check.due("what 4", -2, x.ran(4));
    }

    private static void runRefuses() {
        FusionRules x = new FusionRules();
        Check.due("pipe -1", -1, x.run(-1, 0));
        Check.due("pipe 4", -1, x.run(4, 9));
        Check.due("end -1", -2, x.run(0, -1));
        Check.due("end 5", -2, x.run(0, 5));
        Check.due("no runs", 0, x.count(0));
    }

    private static void countTells() {
        FusionRules x = new FusionRules();
        Check.make(x, 1, 0, 1, 1, OVER, 1);
        Check.make(x, 2, 0, 1, -1);
        x.run(0, SUM);
        x.run(0, LAST);
        x.run(1, SUM);
        x.run(1, ANY);
        x.run(1, COUNT);
        x.run(2, COUNT);
        x.run(2, FIRST);
        x.run(9, FIRST);
        x.phase(3);
        x.phase(3);
        x.phase(9);
        Check.due("runs", 7, x.count(0));
        Check.due("with a fault", 2, x.count(1));
        Check.due("spent", 1, x.count(2));
        Check.due("phases", 2, x.count(3));
        Check.due("what -1", -2, x.count(-1));
        Check.due("what 4", -2, x.count(4));
    }

    private static void meanIsCut() {
        FusionRules x = new FusionRules();
        Check.dueNoMean("no run", x);
        Check.make(x, 0, 0, 1, 3, OVER, 1);
        Check.make(x, 1, 0, 1, -1, ADD, 1);
        Check.dueRun("a fault", x, 0, SUM, -14);
        Check.dueRun("spent", x, 1, SUM, -20);
        Check.dueNoMean("no run ended well", x);
        Check.dueRun("three cells", x, 0, COUNT, 0);
        Check.dueMean("mean", 3, x);
        Check.dueRun("no cells", x, 2, LAST, 1);
        Check.dueMean("mean is cut, and one of none ended well", 1, x);
        Check.dueRun("spent", x, 1, SUM, -20);
        Check.dueMean("mean as before", 1, x);
        Check.dueRun("no cells", x, 2, SUM, 0);
        Check.dueRun("no cells", x, 2, SUM, 0);
        Check.dueMean("mean", 0, x);
    }
}
