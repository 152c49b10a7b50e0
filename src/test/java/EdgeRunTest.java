/** Promises 10, 11, 12, 17, 18 (run, value, ran, count, mean): each sentence that names an edge. */
public final class EdgeRunTest implements Names {
    public static void main(String[] args) {
        testRun();
        testElements();
        testCounts();
        testEnds();
        testValue();
        testRan();
        testCount();
        testMean();
        Check.end();
    }

    private static void testRun() {
        promise10Pipes0To3();
        promise10Ends0To4();
        promise10FirstRefusal();
        promise10RefusalsChangeNothing();
        promise10LessTheFault();
        promise10Calls512();
    }

    private static void testElements() {
        promise10WithoutActs();
        promise10TenMaps();
        promise10TenTests();
        promise10TenOthers();
        promise10SourceGivesNone();
        promise10RowOfNothing();
        promise10RowOfNothingIsAskedFirst();
        promise10WorkedOnce();
        promise10FaultEndsTheRun();
        promise10FaultThatIsNotWanted();
        promise10FaultIsOfOneRun();
    }

    private static void testCounts() {
        promise10ToldNoneAsksNoMore();
        promise10CellsOfEachAct();
        promise10CellsOfTurn();
        promise10The400thAskIsDone();
        promise10The401stAskIsNotDone();
        promise10The401stOfASource();
        promise10The401stOfATest();
        promise10The401stOfASkip();
        promise10The401stOfATurn();
        promise10SpentAheadOfAFault();
        promise10FaultAtThe400thAsk();
        promise10WorksOfFunctions();
        promise10WorksOfSums();
    }

    private static void testEnds() {
        promise10SumWraps();
        promise10SumOfNone();
        promise10CountWantsNoValue();
        promise10FirstAsksOnce();
        promise10FirstOfNone();
        promise10LastWantsNoOther();
        promise10LastOfNone();
        promise10AnyAbove100();
        promise10AnyUpToThatOne();
        promise10AnyOfNone();
    }

    private static void testValue() {
        promise11NoneSoFar();
        promise11LatestThatAnswered0();
    }

    private static void testRan() {
        promise12What();
        promise12ThereWasNone();
        promise12FirstRefusal();
        promise12RefusedRunsAreNone();
        promise12RunsThatDidNotEndWell();
        promise12OfTheLatest();
        promise12ElementsThatItsEndGot();
        promise12RefusalsChangeNothing();
    }

    private static void testCount() {
        promise17What();
        promise17NoneAtFirst();
        promise17Runs();
        promise17Faults();
        promise17SpentOnes();
        promise17Phases();
        promise17RefusalsChangeNothing();
    }

    private static void testMean() {
        promise18ThereWasNone();
        promise18NoneEndedWell();
        promise18Cut();
        promise18EndedWell();
        promise18ChangesNothing();
    }

    private static void promise10Pipes0To3() {
        FusionRules x = Check.sentence(10, "PIPES 0 to 3");
        for (int pipe = 0; pipe <= 3; pipe++) {
            Check.due("run(" + pipe + ", 0)", 0, x.run(pipe, SUM));
        }
        Check.due("run(-1, 0)", NO_SUCH, x.run(-1, SUM));
        Check.due("run(4, 0)", NO_SUCH, x.run(4, SUM));
        Check.due("the least pipe", NO_SUCH, x.run(LEAST_INT, SUM));
        Check.due("the greatest pipe", NO_SUCH, x.run(GREATEST_INT, SUM));
    }

    private static void promise10Ends0To4() {
        FusionRules x = Check.sentence(10, "-20 SPENT. -1; -2.");
        x.range(0, 1, 1, 2);
        for (int end = SUM; end <= ANY; end++) {
            Check.due("run(0, " + end + ")", 0, x.run(0, end));
        }
        Check.due("run(0, -1)", OUT_OF_BOUNDS, x.run(0, -1));
        Check.due("run(0, 5)", OUT_OF_BOUNDS, x.run(0, 5));
        Check.due("the least end", OUT_OF_BOUNDS, x.run(0, LEAST_INT));
        Check.due("the greatest end", OUT_OF_BOUNDS, x.run(0, GREATEST_INT));
    }

    private static void promise10FirstRefusal() {
        FusionRules x = Check.sentence(10, "of several the first one here: -1 there is no such row, pipe, act; -2");
        Check.due("run(4, 5)", NO_SUCH, x.run(4, 5));
        Check.due("run(-1, -1)", NO_SUCH, x.run(-1, -1));
    }

    private static FusionRules withRuns(FusionRules x) {
        Check.make(x, 0, 1, 1, 5, ADD, 1);
        Check.make(x, 1, 0, 1, 5, OVER, 1);
        Check.make(x, 2, 0, 1, -1);
        x.phase(3);
        x.run(2, SUM);
        x.run(1, SUM);
        x.run(0, SUM);
        return x;
    }

    private static void promise10RefusalsChangeNothing() {
        FusionRules x = withRuns(Check.sentence(10, "REFUSALS change nothing"));
        for (int pipe = -1; pipe <= 4; pipe++) {
            x.run(pipe, -1);
            x.run(pipe, 5);
        }
        x.run(-1, SUM);
        x.run(4, FIRST);
        Check.dueAlike("after refusals", withRuns(new FusionRules()), x);
    }

    private static void promise10LessTheFault() {
        FusionRules x = Check.sentence(10, "-10 less the FAULT");
        Check.make(x, 0, 0, 0, 1, PICK, 0);
        Check.dueRun("1 a ROW is nothing", x, 0, SUM, -11);
        x.row(0, LONGS, 1);
        Check.dueRun("2 it is of others", x, 0, SUM, -12);
        x.row(0, INTS, 0);
        Check.dueRun("3 an index", x, 0, SUM, -13);
        Check.make(x, 0, 0, 0, 1, OVER, 1);
        Check.dueRun("4 by 0", x, 0, SUM, -14);
    }

    private static void promise10Calls512() {
        FusionRules x = Check.sentence(10, "An object is used for at most 512 calls after it has been made");
        x.range(0, 1, 1, 39);
        for (int i = 1; i <= 9; i++) {
            x.act(0, SUMS, 0);
        }
        for (int i = 1; i <= 500; i++) {
            Check.due("run " + i, 0, x.run(0, COUNT));
        }
        Check.due("count(0)", 500, x.count(0));
        Check.dueMean("500 runs", 39 * 9, x);
    }

    private static void promise10WithoutActs() {
        FusionRules x = Check.sentence(10, "(without ACTS: the SOURCE)");
        Check.make(x, 0, 1, 1, 3);
        Check.dueValue("a range", x, 0, SUM, 6, 0, 4, 0, 3);
        Check.ints(x, 0, 8, 9);
        x.fromRow(0, 0);
        Check.dueValue("a row", x, 0, SUM, 17, 0, 3, 0, 2);
    }

    /** Pipe 0 becomes from, from + by, .. (4 of them) and ten acts alike. */
    private static void makeTen(FusionRules x, long from, long by, int kind, long a) {
        Check.make(x, 0, from, by, 4);
        for (int i = 1; i <= 10; i++) {
            Check.due("act " + i, i, x.act(0, kind, a));
        }
    }

    private static void promise10TenMaps() {
        FusionRules x = Check.sentence(10, "PIPES 0 to 3 have a SOURCE and up to 10 ACTS");
        Check.ints(x, 5, 1, 2, 3, 4, 0);
        makeTen(x, 1, 1, ADD, 1);
        Check.dueValue("ADD", x, 0, SUM, 10 + 40, 40, 55, 40, 4);
        makeTen(x, 1, 1, TIMES, 2);
        Check.dueValue("TIMES", x, 0, SUM, 10 * 1024, 40, 55, 40, 4);
        makeTen(x, 1, 1, OVER, 60);
        Check.dueValue("OVER", x, 0, SUM, 10, 40, 55, 40, 4);
        makeTen(x, 1, 1, PICK, 5);
        Check.dueValue("PICK", x, 0, SUM, 10, 40, 55, 40, 4);
    }

    private static void promise10TenTests() {
        FusionRules x = Check.sentence(10, "PIPES 0 to 3 have a SOURCE and up to 10 ACTS");
        makeTen(x, 1, 1, ABOVE, 1);
        Check.dueValue("ABOVE", x, 0, SUM, 9, 30, 10 * 4 + 5, 0, 3);
        makeTen(x, 1, 1, EVEN, 0);
        Check.dueValue("EVEN", x, 0, SUM, 6, 20, 10 * 3 + 5, 0, 2);
        makeTen(x, 1, 1, UNLIKE, 2);
        Check.dueValue("UNLIKE", x, 0, SUM, 8, 30, 10 * 4 + 5, 0, 3);
    }

    private static void promise10TenOthers() {
        FusionRules x = Check.sentence(10, "PIPES 0 to 3 have a SOURCE and up to 10 ACTS");
        makeTen(x, 1, 1, TAKE, 3);
        Check.dueValue("TAKE", x, 0, SUM, 6, 30, 4 + 9 * 3 + 3, 0, 3);
        makeTen(x, 1, 1, SKIP, 1);
        // all are asked once; then act 1 asks on, act 2, act 3, and act 4, which is told none
        Check.dueRun("SKIP of fewer", x, 0, FIRST, OF_NONE, 0, 11 + 1 + 2 + 3 + 4, 0, 0);
        x.range(0, 1, 1, 11);
        Check.addActs(x, 0, SKIP, 1, SKIP, 1, SKIP, 1, SKIP, 1, SKIP, 1, SKIP, 1, SKIP, 1, SKIP, 1, SKIP, 1, SKIP, 1);
        Check.dueValue("SKIP", x, 0, FIRST, 11, 0, 66, 0, 1);
        makeTen(x, 1, 1, WHILE, 4);
        Check.dueValue("WHILE", x, 0, SUM, 6, 30, 11 * 4, 0, 3);
        makeTen(x, 1, 0, SUMS, 0);
        Check.dueValue("SUMS", x, 0, SUM, 1 + 11 + 66 + 286, 40, 55, 40, 4);
        makeTen(x, 1, 1, TURN, 0);
        Check.dueValue("TURN, the first", x, 0, FIRST, 1, 9 * 8 + 4 + 1, 10 * 5 + 1, 0, 1);
        Check.dueValue("TURN, all", x, 0, SUM, 10, 80, 55, 0, 4);
    }

    private static void promise10SourceGivesNone() {
        FusionRules x = Check.sentence(10, "a SOURCE gives its next one, or none");
        Check.dueValue("a range of none", x, 0, COUNT, 0, 0, 1, 0, 0);
        x.row(0, BYTES, 0);
        x.fromRow(0, 0);
        Check.dueValue("a row of no cells", x, 0, COUNT, 0, 0, 1, 0, 0);
    }

    private static void promise10RowOfNothing() {
        FusionRules x = Check.sentence(10, "(a ROW that holds nothing: FAULT 1, of the RUN)");
        x.fromRow(0, 0);
        for (int end = SUM; end <= ANY; end++) {
            Check.dueRun("end " + end, x, 0, end, FAULT_1, 0, 1, 0, 0);
        }
        for (int kind = ADD; kind <= TURN; kind++) {
            x.fromRow(0, 0);
            x.act(0, kind, 1);
            Check.dueRun("behind kind " + kind, x, 0, COUNT, FAULT_1, 0, 2, 0, 0);
        }
    }

    private static void promise10RowOfNothingIsAskedFirst() {
        FusionRules x = Check.sentence(10, "(a ROW that holds nothing: FAULT 1, of the RUN)");
        x.fromRow(0, 0);
        Check.addActs(x, 0, TAKE, 0);
        Check.dueRun("who does not ask has no fault", x, 0, FIRST, OF_NONE, 0, 1, 0, 0);
        x.row(0, INTS, 0);
        x.fromRow(0, 0);
        Check.dueRun("no cells are no fault", x, 0, FIRST, OF_NONE, 0, 1, 0, 0);
    }

    private static void promise10WorkedOnce() {
        FusionRules x = Check.sentence(10, "it is WORKED as someone wants it, once");
        Check.make(x, 0, 1, 1, 3, ADD, 1, ABOVE, 0, WHILE, 50, UNLIKE, 9);
        Check.dueValue("three want each value", x, 0, SUM, 9, 12, 5 * 4, 3, 3);
        Check.make(x, 0, 1, 1, 3, ADD, 1, SUMS, 0, ABOVE, 0, SUMS, 0);
        Check.dueValue("each sum once", x, 0, SUM, 2 + 7 + 16, 12, 5 * 4, 9, 3);
        Check.make(x, 0, 1, 1, 3, ADD, 1, SUMS, 0, TURN, 0);
        Check.dueValue("the last sum works them all", x, 0, SUM, 2 + 5 + 9, 12, 4 * 4, 6, 3);
        Check.dueValue("none is wanted", x, 0, COUNT, 3, 12, 4 * 4, 0, 3);
    }

    private static void promise10FaultEndsTheRun() {
        FusionRules x = Check.sentence(10, "A RUN that wants the value of an ELEMENT with one ends with it");
        Check.make(x, 0, 1, -1, 9, OVER, 6);
        Check.dueRun("SUM", x, 0, SUM, FAULT_4, 2, 4, 2, 2);
        Check.dueRun("ANY", x, 0, ANY, FAULT_4, 2, 4, 2, 2);
        Check.make(x, 0, 1, -1, 9, OVER, 6, UNLIKE, 1);
        Check.dueRun("a TEST", x, 0, COUNT, FAULT_4, 3, 6, 2, 1);
        Check.make(x, 0, 1, -1, 9, OVER, 6, WHILE, 99);
        Check.dueRun("a WHILE", x, 0, COUNT, FAULT_4, 3, 6, 2, 1);
        Check.make(x, 0, 1, -1, 9, OVER, 6, UNLIKE, 1, TURN, 0, SUMS, 0);
        Check.dueRun("a TEST under a TURN", x, 0, COUNT, FAULT_4, 4, 8, 2, 0);
        Check.make(x, 0, 1, -1, 9, OVER, 6, UNLIKE, 1, SKIP, 9, TAKE, 9);
        Check.dueRun("a TEST under a SKIP", x, 0, COUNT, FAULT_4, 3, 8, 2, 0);
        Check.make(x, 0, 1, -1, 2, OVER, 6);
        Check.dueRun("LAST", x, 0, LAST, FAULT_4, 2, 6, 1, 2);
        Check.make(x, 0, 0, -1, 2, OVER, 6);
        Check.dueRun("FIRST", x, 0, FIRST, FAULT_4, 1, 2, 1, 1);
    }

    private static void promise10FaultThatIsNotWanted() {
        FusionRules x = Check.sentence(10, "A RUN that wants the value of an ELEMENT with one ends with it");
        Check.make(x, 0, 0, 0, 3, OVER, 6, SUMS, 0, ADD, 1, TURN, 0, TAKE, 9);
        Check.dueValue("no one wants any", x, 0, COUNT, 3, 9 + 6 + 3, 4 * 6, 0, 3);
        Check.dueRun("one is wanted", x, 0, FIRST, FAULT_4, 9 + 3 + 2, 4 * 4 + 2, 3 + 1, 1);
    }

    private static void promise10FaultIsOfOneRun() {
        FusionRules x = Check.sentence(10, "a value, or a FAULT, which stays");
        Check.make(x, 0, 0, 0, 1, PICK, 0);
        Check.dueRun("nothing", x, 0, SUM, FAULT_1);
        Check.ints(x, 0, 8);
        Check.dueValue("the next run has new elements", x, 0, SUM, 8);
    }

    private static void promise10ToldNoneAsksNoMore() {
        FusionRules x = Check.sentence(10, "Who was told none asks no more");
        Check.make(x, 0, 1, 1, 2, ADD, 1, ABOVE, 0, UNLIKE, 0, WHILE, 9, SUMS, 0);
        Check.dueValue("each is asked once more than it gives", x, 0, COUNT, 2, 10, 6 * 3, 0 + 2, 2);
        Check.make(x, 0, 1, 1, 2, TURN, 0, TURN, 0);
        Check.dueValue("a TURN of a TURN", x, 0, COUNT, 2, 8, 3 * 3, 0, 2);
        Check.make(x, 0, 1, 1, 2, SKIP, 9);
        Check.dueValue("a SKIP", x, 0, COUNT, 0, 0, 1 + 3, 0, 0);
        Check.make(x, 0, 1, 1, 2, TURN, 0, SKIP, 9, SKIP, 9);
        Check.dueValue("a SKIP of a SKIP of a TURN", x, 0, COUNT, 0, 4, 1 + 1 + 3 + 3, 0, 0);
    }

    private static void promise10CellsOfEachAct() {
        FusionRules x = Check.sentence(10, "one for each ELEMENT that an ACT gives (SKIP: none)");
        int[] numbers = {1, 1, 1, 1, 0, 0, 0, 2, 1, 3, 0};
        int[] cells = {3, 3, 3, 3, 3, 1, 3, 2, 0, 2, 3};
        for (int kind = ADD; kind <= SUMS; kind++) {
            Check.make(x, 0, 1, 1, 3, kind, numbers[kind]);
            Check.dueRun("kind " + kind, x, 0, COUNT, 0, cells[kind]);
        }
        Check.make(x, 0, 1, 1, 3);
        Check.dueRun("a source gives none", x, 0, COUNT, 0, 0);
    }

    private static void promise10CellsOfTurn() {
        FusionRules x = Check.sentence(10, "TURN: one as it takes one, too");
        Check.make(x, 0, 1, 1, 3, TURN, 0);
        Check.dueRun("three taken, three given", x, 0, COUNT, 0, 6);
        Check.dueRun("three taken, one given", x, 0, FIRST, 0, 4);
        Check.make(x, 0, 1, 1, 0, TURN, 0);
        Check.dueRun("none", x, 0, COUNT, 0, 0);
    }

    private static void promise10The400thAskIsDone() {
        FusionRules x = Check.sentence(10, "each time a SOURCE or ACT is asked; the 401st is not done");
        Check.make(x, 0, 1, 1, 39, ADD, 1, ADD, 1, ADD, 1, ADD, 1, ADD, 1, ADD, 1, ADD, 1, ADD, 1, ADD, 1);
        Check.dueValue("400 asks", x, 0, LAST, 48, 39 * 9, 400, 9, 39);
        Check.dueValue("400 asks", x, 0, SUM, 39 * 20 + 39 * 9, 39 * 9, 400, 39 * 9, 39);
    }

    private static void promise10The401stAskIsNotDone() {
        FusionRules x = Check.sentence(10, "the 401st is not done: the RUN is SPENT");
        Check.make(x, 0, 1, 1, -1, TAKE, 66, ADD, 1, ADD, 1, ADD, 1, ADD, 1);
        Check.dueRun("the 401st would tell none", x, 0, SUM, SPENT, 66 * 5, 400, 66 * 4, 66);
        Check.dueRun("no value is wanted then", x, 0, LAST, SPENT, 66 * 5, 400, 0, 66);
        Check.dueRun("a count that is not told", x, 0, COUNT, SPENT, 66 * 5, 400, 0, 66);
        Check.due("value()", 0, x.value());
        Check.make(x, 0, 1, 1, 40, ADD, 1, ADD, 1, ADD, 1, ADD, 1, ADD, 1, ADD, 1, ADD, 1, ADD, 1, ADD, 1);
        Check.dueRun("410 asks", x, 0, SUM, SPENT, 40 * 9, 400, 40 * 9, 40);
        Check.dueValue("the next run has 400 again", x, 0, FIRST, 10, 9, 10, 9, 1);
    }

    private static void promise10The401stOfASource() {
        FusionRules x = Check.sentence(10, "the 401st is not done: the RUN is SPENT");
        Check.make(x, 0, -298, 1, -1);
        Check.dueValue("101 comes at the 400th", x, 0, ANY, 1, 0, 400, 0, 400);
        Check.make(x, 0, -299, 1, -1);
        Check.dueRun("101 would come at the 401st", x, 0, ANY, SPENT, 0, 400, 0, 400);
    }

    private static void promise10The401stOfATest() {
        FusionRules x = Check.sentence(10, "the 401st is not done: the RUN is SPENT");
        Check.make(x, 0, 1, 1, -1, ABOVE, 398);
        Check.dueValue("399 comes at the 400th", x, 0, FIRST, 399, 1, 400, 0, 1);
        Check.make(x, 0, 1, 1, -1, ABOVE, 399);
        Check.dueRun("400 would come at the 401st", x, 0, FIRST, SPENT, 0, 400, 0, 0);
    }

    private static void promise10The401stOfASkip() {
        FusionRules x = Check.sentence(10, "the 401st is not done: the RUN is SPENT");
        x.phase(3);
        Check.make(x, 0, 1, 1, -1, SKIP, 100, SKIP, 100, SKIP, 100, SKIP, 98);
        x.fuse(0);
        Check.dueValue("SKIP 398", x, 0, FIRST, 399, 0, 400, 0, 1);
        x.act(0, SKIP, 1);
        x.fuse(0);
        Check.dueRun("SKIP 399", x, 0, FIRST, SPENT, 0, 400, 0, 0);
        Check.addActs(x, 0, SKIP, 100, SKIP, 100, SKIP, 100);
        x.fuse(0);
        Check.dueActs("more than all asks", x, 0, "8:699");
        Check.dueRun("SKIP 699", x, 0, COUNT, SPENT, 0, 400, 0, 0);
    }

    private static void promise10The401stOfATurn() {
        FusionRules x = Check.sentence(10, "the 401st is not done: the RUN is SPENT");
        Check.make(x, 0, 1, 1, -1, ADD, 0, WHILE, 133, TURN, 0);
        Check.dueValue("the 400th tells the end", x, 0, FIRST, 132, 133 + 132 + 132 + 1, 400, 133, 1);
        Check.dueRun("the END asks once more", x, 0, COUNT, SPENT, 133 + 132 + 132 + 1, 400, 133, 1);
        Check.make(x, 0, 1, 1, -1, ADD, 0, WHILE, 134, TURN, 0);
        Check.dueRun("what was taken is not given", x, 0, FIRST, SPENT, 3 * 133, 400, 133, 0);
    }

    private static void promise10FaultAtThe400thAsk() {
        FusionRules x = Check.sentence(10, "A RUN that wants the value of an ELEMENT with one ends with it");
        Check.make(x, 0, 199, -1, -1, OVER, 1);
        Check.dueRun("0 comes at the 400th", x, 0, SUM, FAULT_4, 200, 400, 200, 200);
        Check.make(x, 0, 200, -1, -1, OVER, 1);
        Check.dueRun("0 would come behind it", x, 0, SUM, SPENT, 200, 400, 200, 200);
    }

    private static void promise10SpentAheadOfAFault() {
        FusionRules x = Check.sentence(10, "the 401st is not done: the RUN is SPENT");
        Check.make(x, 0, 0, 0, -1, OVER, 1);
        Check.dueRun("LAST wants none ahead of the end", x, 0, LAST, SPENT, 200, 400, 0, 200);
        Check.dueRun("SUM wants the first", x, 0, SUM, FAULT_4, 1, 2, 1, 1);
        Check.make(x, 0, 398, -1, -1, OVER, 1, SKIP, 100, SKIP, 98);
        Check.dueRun("spent in a SKIP", x, 0, FIRST, SPENT);
    }

    private static void promise10WorksOfFunctions() {
        FusionRules x = Check.sentence(10, "each function of a MAP (behind the value that it wants)");
        Check.make(x, 0, 0, 1, 1, OVER, 6, ADD, 1, ADD, 1);
        Check.dueRun("the others want a value that there is not", x, 0, SUM, FAULT_4, 3, 4, 1, 1);
        Check.make(x, 0, 0, 1, 1, ADD, 1, ADD, -1, OVER, 6);
        Check.dueRun("the last is begun", x, 0, SUM, FAULT_4, 3, 4, 3, 1);
        Check.make(x, 0, 1, 1, 1, OVER, 6, ADD, 1, ADD, 1);
        Check.dueValue("all", x, 0, SUM, 8, 3, 8, 3, 1);
    }

    private static void promise10WorksOfSums() {
        FusionRules x = Check.sentence(10, "each sum (ahead of the values that it wants) that is begun");
        Check.make(x, 0, 0, 1, 1, OVER, 6, SUMS, 0, SUMS, 0);
        Check.dueRun("both sums are begun", x, 0, SUM, FAULT_4, 3, 4, 1 + 2, 1);
        Check.make(x, 0, 0, 1, 3, OVER, 6, SUMS, 0);
        Check.dueRun("all three are begun", x, 0, LAST, FAULT_4, 6, 12, 1 + 3, 3);
        Check.make(x, 0, 0, 1, 3, OVER, 6, SUMS, 0, ADD, 1);
        Check.dueRun("a function behind them is not", x, 0, LAST, FAULT_4, 9, 16, 1 + 3, 3);
    }

    private static void promise10SumWraps() {
        FusionRules x = Check.sentence(10, "0 SUM: all values, wrapping");
        Check.make(x, 0, GREATEST, 0, 2);
        Check.dueValue("the greatest twice", x, 0, SUM, -2);
        Check.make(x, 0, LEAST, 0, 2);
        Check.dueValue("the least twice", x, 0, SUM, 0);
        Check.make(x, 0, 1L << 31, 0, 2);
        Check.dueValue("more than an int", x, 0, SUM, 1L << 32);
    }

    private static void promise10SumOfNone() {
        FusionRules x = Check.sentence(10, "0 SUM: all values");
        x.range(1, 5, 5, 1);
        Check.dueValue("one", x, 1, SUM, 5);
        Check.dueValue("none", x, 0, SUM, 0, 0, 1, 0, 0);
    }

    private static void promise10CountWantsNoValue() {
        FusionRules x = Check.sentence(10, "1 COUNT: how many ELEMENTS (no value is wanted)");
        Check.dueValue("none", x, 0, COUNT, 0);
        Check.make(x, 0, 0, 0, 40, OVER, 1);
        Check.dueValue("forty faults", x, 0, COUNT, 40, 40, 82, 0, 40);
    }

    private static void promise10FirstAsksOnce() {
        FusionRules x = Check.sentence(10, "2 FIRST: the first one's value");
        Check.make(x, 0, 2, -1, -1, OVER, 6);
        Check.dueValue("the second one has a fault", x, 0, FIRST, 3, 1, 2, 1, 1);
    }

    private static void promise10FirstOfNone() {
        FusionRules x = Check.sentence(10, "1: FIRST, LAST of none");
        Check.dueRun("FIRST", x, 0, FIRST, OF_NONE, 0, 1, 0, 0);
        Check.make(x, 0, 0, 0, 9, OVER, 1, SKIP, 9);
        Check.dueRun("all are skipped", x, 0, FIRST, OF_NONE, 9, 1 + 10 + 10, 0, 0);
    }

    private static void promise10LastWantsNoOther() {
        FusionRules x = Check.sentence(10, "3 LAST: the last one's value (no other is wanted)");
        Check.make(x, 0, -2, 1, 4, OVER, 6);
        Check.dueValue("a fault ahead of it", x, 0, LAST, 6, 4, 10, 1, 4);
        Check.make(x, 0, -2, 1, 3, OVER, 6);
        Check.dueRun("a fault", x, 0, LAST, FAULT_4, 3, 8, 1, 3);
        Check.make(x, 0, 7, 1, 1);
        Check.dueValue("one", x, 0, LAST, 7);
    }

    private static void promise10LastOfNone() {
        FusionRules x = Check.sentence(10, "1: FIRST, LAST of none");
        Check.dueRun("LAST", x, 0, LAST, OF_NONE, 0, 1, 0, 0);
        Check.make(x, 0, 1, 1, 9, ABOVE, 9);
        Check.dueRun("none is so", x, 0, LAST, OF_NONE, 0, 1 + 10, 0, 0);
    }

    private static void promise10AnyAbove100() {
        FusionRules x = Check.sentence(10, "4 ANY: whether a value is above 100 (1, 0)");
        Check.make(x, 0, 100, -1, 3);
        Check.dueValue("100 is not", x, 0, ANY, 0, 0, 4, 0, 3);
        Check.make(x, 0, 101, 0, 1);
        Check.dueValue("101 is", x, 0, ANY, 1, 0, 1, 0, 1);
        Check.make(x, 0, 99, 1, 3);
        Check.dueValue("the last one is", x, 0, ANY, 1, 0, 3, 0, 3);
        Check.make(x, 0, LEAST, 0, 2);
        Check.dueValue("the least is not", x, 0, ANY, 0);
        Check.make(x, 0, GREATEST, 0, 2);
        Check.dueValue("the greatest is", x, 0, ANY, 1);
        Check.make(x, 0, 1L << 32, 0, 2);
        Check.dueValue("2^32 is", x, 0, ANY, 1);
    }

    private static void promise10AnyUpToThatOne() {
        FusionRules x = Check.sentence(10, "asked for up to that one");
        Check.ints(x, 0, 5, 200, 5);
        x.fromRow(0, 0);
        Check.dueValue("the second", x, 0, ANY, 1, 0, 2, 0, 2);
        Check.make(x, 0, 1, -1, 9, OVER, 101);
        Check.dueValue("a fault behind it", x, 0, ANY, 1, 1, 2, 1, 1);
        Check.make(x, 0, 1, -1, 9, OVER, 100);
        Check.dueRun("a fault, and none ahead of it", x, 0, ANY, FAULT_4, 2, 4, 2, 2);
        Check.make(x, 0, 0, 1, -1);
        Check.dueValue("no end is needed", x, 0, ANY, 1, 0, 102, 0, 102);
    }

    private static void promise10AnyOfNone() {
        FusionRules x = Check.sentence(10, "4 ANY: whether a value is above 100 (1, 0)");
        Check.make(x, 1, 101, 0, 1);
        Check.dueValue("one", x, 1, ANY, 1);
        Check.dueValue("none", x, 0, ANY, 0, 0, 1, 0, 0);
    }

    private static void promise11NoneSoFar() {
        FusionRules x = Check.sentence(11, "0: none so far");
        Check.due("no run", 0, x.value());
        x.run(0, FIRST);
        Check.due("a run of none", 0, x.value());
        Check.make(x, 0, 5, 1, -1);
        x.run(0, COUNT);
        Check.due("a spent run", 0, x.value());
        Check.make(x, 0, 5, -5, 2, OVER, 5);
        x.run(0, SUM);
        Check.due("a run with a fault", 0, x.value());
        x.run(4, SUM);
        Check.due("a refused run", 0, x.value());
    }

    private static void promise11LatestThatAnswered0() {
        FusionRules x = Check.sentence(11, "The value of the latest RUN that answered 0");
        Check.make(x, 0, 21, 1, 2);
        Check.make(x, 1, 5, -5, 2, OVER, 5);
        Check.make(x, 2, 5, 1, -1);
        Check.dueValue("a run", x, 0, SUM, 43);
        Check.dueRun("a fault", x, 1, SUM, FAULT_4);
        Check.due("behind a fault", 43, x.value());
        Check.dueRun("spent", x, 2, COUNT, SPENT);
        Check.due("behind a spent run", 43, x.value());
        Check.dueRun("none", x, 3, LAST, OF_NONE);
        Check.due("behind a run of none", 43, x.value());
        Check.dueRun("refused", x, 0, 5, OUT_OF_BOUNDS);
        Check.due("behind a refused run", 43, x.value());
        x.range(0, 0, 0, 0);
        Check.due("behind a new range", 43, x.value());
        Check.dueValue("a run whose value is 0", x, 3, SUM, 0);
    }

    private static void promise12What() {
        FusionRules x = Check.sentence(12, "-2; -3: there was none");
        Check.make(x, 0, 1, 1, 2, SUMS, 0);
        x.run(0, SUM);
        Check.due("ran(0)", 2, x.ran(0));
        Check.due("ran(1)", 6, x.ran(1));
        Check.due("ran(2)", 2, x.ran(2));
        Check.due("ran(3)", 2, x.ran(3));
        Check.due("ran(-1)", OUT_OF_BOUNDS, x.ran(-1));
        Check.due("ran(4)", OUT_OF_BOUNDS, x.ran(4));
        Check.due("the least what", OUT_OF_BOUNDS, x.ran(LEAST_INT));
        Check.due("the greatest what", OUT_OF_BOUNDS, x.ran(GREATEST_INT));
    }

    private static void promise12ThereWasNone() {
        FusionRules x = Check.sentence(12, "-3: there was none");
        for (int what = 0; what <= 3; what++) {
            Check.due("ran(" + what + ")", NONE_SO_FAR, x.ran(what));
        }
        x.run(0, FIRST);
        Check.due("ran(0) behind a run of none", 0, x.ran(0));
        Check.due("ran(1) behind a run of none", 1, x.ran(1));
    }

    private static void promise12FirstRefusal() {
        FusionRules x = Check.sentence(12, "of several the first one here");
        Check.due("ran(-1): -2 ahead of -3", OUT_OF_BOUNDS, x.ran(-1));
        Check.due("ran(4): -2 ahead of -3", OUT_OF_BOUNDS, x.ran(4));
    }

    private static void promise12RefusedRunsAreNone() {
        FusionRules x = Check.sentence(12, "-3: there was none");
        x.run(-1, SUM);
        x.run(4, SUM);
        x.run(0, -1);
        x.run(0, 5);
        Check.due("ran(0)", NONE_SO_FAR, x.ran(0));
        Check.due("ran(3)", NONE_SO_FAR, x.ran(3));
    }

    private static void promise12RunsThatDidNotEndWell() {
        FusionRules x = Check.sentence(12, "-3: there was none");
        x.fromRow(0, 0);
        Check.dueRun("a fault, and no run ahead of it", x, 0, COUNT, FAULT_1, 0, 1, 0, 0);
        FusionRules y = new FusionRules();
        y.range(0, 1, 1, -1);
        Check.dueRun("spent, and no run ahead of it", y, 0, COUNT, SPENT, 0, 400, 0, 400);
    }

    private static void promise12OfTheLatest() {
        FusionRules x = Check.sentence(12, "Of the latest RUN");
        Check.make(x, 0, 1, 1, 3, ADD, 1);
        Check.make(x, 1, 0, 1, 3, OVER, 1);
        Check.make(x, 2, 0, 1, -1);
        Check.dueRun("one that answered 0", x, 0, SUM, 0, 3, 8, 3, 3);
        Check.dueRun("one with a fault", x, 1, SUM, FAULT_4, 1, 2, 1, 1);
        Check.dueRun("a spent one", x, 2, SUM, SPENT, 0, 400, 0, 400);
        Check.dueRun("one of none", x, 3, FIRST, OF_NONE, 0, 1, 0, 0);
        Check.dueRun("one that answered 0", x, 0, LAST, 0, 3, 8, 1, 3);
        x.run(4, SUM);
        x.run(2, 5);
        x.range(0, 0, 0, 0);
        Check.due("ran(1) behind refused ones", 8, x.ran(1));
    }

    private static void promise12ElementsThatItsEndGot() {
        FusionRules x = Check.sentence(12, "3 ELEMENTS that its END got");
        Check.make(x, 0, 1, 1, 40);
        int[] got = {40, 40, 1, 40, 40};
        for (int end = SUM; end <= ANY; end++) {
            Check.due("run(0, " + end + ")", 0, x.run(0, end));
            Check.due("ran(3) of end " + end, got[end], x.ran(3));
        }
        Check.make(x, 0, 1, 1, 40, TAKE, 0);
        x.run(0, LAST);
        Check.due("ran(3) of none", 0, x.ran(3));
    }

    private static void promise12RefusalsChangeNothing() {
        FusionRules x = withRuns(Check.sentence(12, "REFUSALS change nothing"));
        x.ran(-1);
        x.ran(4);
        Check.dueAlike("after refusals", withRuns(new FusionRules()), x);
        FusionRules y = new FusionRules();
        y.ran(0);
        y.ran(4);
        Check.dueAlike("after refusals of a new object", new FusionRules(), y);
    }

    private static void promise17What() {
        FusionRules x = Check.sentence(17, "3 PHASES. -2.");
        for (int what = 0; what <= 3; what++) {
            Check.due("count(" + what + ")", 0, x.count(what));
        }
        Check.due("count(-1)", OUT_OF_BOUNDS, x.count(-1));
        Check.due("count(4)", OUT_OF_BOUNDS, x.count(4));
        Check.due("the least what", OUT_OF_BOUNDS, x.count(LEAST_INT));
        Check.due("the greatest what", OUT_OF_BOUNDS, x.count(GREATEST_INT));
    }

    private static void promise17NoneAtFirst() {
        FusionRules x = Check.sentence(17, "0 RUNS, 1 those that had a FAULT, 2 those that were SPENT");
        for (int what = 0; what <= 3; what++) {
            Check.due("count(" + what + ")", 0, x.count(what));
        }
        x.run(-1, SUM);
        x.run(4, SUM);
        x.run(0, -1);
        x.run(0, 5);
        for (int what = 0; what <= 3; what++) {
            Check.due("count(" + what + ") behind refused runs", 0, x.count(what));
        }
    }

    private static void promise17Runs() {
        FusionRules x = withRuns(Check.sentence(17, "0 RUNS"));
        Check.due("count(0)", 3, x.count(0));
        x.run(3, FIRST);
        Check.due("count(0) behind a run of none", 4, x.count(0));
    }

    private static void promise17Faults() {
        FusionRules x = Check.sentence(17, "1 those that had a FAULT");
        Check.make(x, 0, 0, 0, 1, PICK, 0);
        x.run(0, SUM);
        x.row(0, BYTES, 1);
        x.run(0, SUM);
        x.row(0, INTS, 0);
        x.run(0, SUM);
        Check.make(x, 0, 0, 0, 1, OVER, 0);
        x.run(0, SUM);
        Check.due("count(1) of each fault", 4, x.count(1));
        x.run(0, COUNT);
        Check.due("count(1) behind a fault that was not wanted", 4, x.count(1));
        x.fromRow(0, 5);
        x.run(0, COUNT);
        Check.due("count(1) behind a row of nothing", 5, x.count(1));
        Check.due("count(2)", 0, x.count(2));
        Check.due("count(0)", 6, x.count(0));
    }

    private static void promise17SpentOnes() {
        FusionRules x = Check.sentence(17, "2 those that were SPENT");
        x.range(0, 1, 1, -1);
        x.run(0, FIRST);
        Check.due("count(2)", 0, x.count(2));
        x.run(0, LAST);
        x.run(0, SUM);
        Check.due("count(2)", 2, x.count(2));
        Check.due("count(1)", 0, x.count(1));
    }

    private static void promise17Phases() {
        FusionRules x = Check.sentence(17, "3 PHASES");
        for (int i = 1; i <= 8; i++) {
            x.phase(7);
            Check.due("count(3)", i, x.count(3));
        }
        x.phase(7);
        Check.due("count(3) behind a ninth", 8, x.count(3));
        x.phase(8);
        x.phase(-2);
        Check.due("count(3) behind refused ones", 8, x.count(3));
        x.phase(-1);
        Check.due("count(3) of none any more", 0, x.count(3));
    }

    private static void promise17RefusalsChangeNothing() {
        FusionRules x = withRuns(Check.sentence(17, "REFUSALS change nothing"));
        x.count(-1);
        x.count(4);
        Check.dueAlike("after refusals", withRuns(new FusionRules()), x);
    }

    private static void promise18ThereWasNone() {
        FusionRules x = Check.sentence(18, "ArithmeticException: there was none");
        Check.dueNoMean("a new object", x);
        Check.dueNoMean("again", x);
        x.run(-1, SUM);
        x.run(0, 5);
        Check.dueNoMean("refused runs", x);
        x.run(0, SUM);
        Check.dueMean("a run without cells", 0, x);
    }

    private static void promise18NoneEndedWell() {
        FusionRules x = Check.sentence(18, "ArithmeticException: there was none");
        Check.make(x, 0, 0, 1, 9, ADD, 0, OVER, 1);
        Check.make(x, 1, 0, 1, -1, ADD, 1);
        x.fromRow(2, 0);
        Check.dueRun("by 0", x, 0, SUM, FAULT_4);
        Check.dueNoMean("a run with a fault", x);
        Check.dueRun("a row of nothing", x, 2, COUNT, FAULT_1);
        Check.dueNoMean("a row of nothing", x);
        Check.dueRun("spent", x, 1, SUM, SPENT);
        Check.dueNoMean("a spent run", x);
    }

    private static void promise18Cut() {
        FusionRules x = Check.sentence(18, "by how many these are, cut");
        Check.make(x, 0, 0, 1, 5, ADD, 1);
        x.run(0, COUNT);
        Check.dueMean("5 by 1", 5, x);
        x.run(1, COUNT);
        Check.dueMean("5 by 2", 2, x);
        x.run(1, COUNT);
        Check.dueMean("5 by 3", 1, x);
        x.run(1, COUNT);
        x.run(1, COUNT);
        Check.dueMean("5 by 5", 1, x);
        x.run(1, COUNT);
        Check.dueMean("5 by 6", 0, x);
    }

    private static void promise18EndedWell() {
        FusionRules x = Check.sentence(18, "CELLS of the RUNS that ended well (0, 1)");
        Check.make(x, 0, 0, 1, 5, ADD, 1, SKIP, 5);
        Check.make(x, 1, 0, 1, 5, TURN, 0, OVER, 1);
        Check.make(x, 2, 0, 1, -1, ADD, 1);
        Check.dueRun("of none", x, 0, FIRST, OF_NONE, 5);
        Check.dueMean("5 by 1", 5, x);
        Check.dueRun("a fault", x, 1, SUM, FAULT_4, 5 + 5 + 5);
        Check.dueMean("5 by 1 behind a fault", 5, x);
        Check.dueRun("spent", x, 2, SUM, SPENT, 200);
        Check.dueMean("5 by 1 behind a spent run", 5, x);
        Check.dueRun("well", x, 1, COUNT, 0, 15);
        Check.dueMean("20 by 2", 10, x);
        x.run(4, COUNT);
        Check.dueMean("20 by 2 behind a refused run", 10, x);
    }

    private static void promise18ChangesNothing() {
        FusionRules x = Check.sentence(18, "ArithmeticException: there was none");
        Check.dueNoMean("a new object", x);
        Check.dueAlike("after the exception", new FusionRules(), x);
    }
}
